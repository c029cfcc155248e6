section ELEM
variable {X : List Int} {a0 a1 a2 a3 a4 a5 a6 a7 a8 a9 a10 a11 a12 a13 : AV} {st : List AV} {mem : AM} {x y n0 n1 n2 n3 n4 n5 n6 : Int} {s0 s1 s2 s3 : AV} {r r0 r1 r2 r3 r4 r5 : Nat}
theorem eX5_farthest_18 : ev X m_X5_farthest 18 [a0, a1, a2, a3, a4] (vI y :: vI x :: st) mem = ev X m_X5_farthest 19 [a0, a1, a2, a3, a4] (vI (w32 (x + y)) :: st) mem := ke_iadd dX5_farthest_18
theorem eX5_farthest_19 : ev X m_X5_farthest 19 [a0, a1, a2, a3, a4] (vI x :: st) mem = ev X m_X5_farthest 21 [a0, a1, a2, a3, vI x] st mem := ke_istore (Nat.le_of_ble_eq_true rfl) rfl dX5_farthest_19
theorem eX5_farthest_21 : ev X m_X5_farthest 21 [a0, a1, a2, a3, vI x] st mem = ev X m_X5_farthest 23 [a0, a1, a2, a3, vI x] (vI x :: st) mem := ke_iload rfl dX5_farthest_21
theorem eX5_farthest_23 : ev X m_X5_farthest 23 [vR r, a1, a2, a3, a4] st mem = ev X m_X5_farthest 24 [vR r, a1, a2, a3, a4] (vR r :: st) mem := ke_aload_n rfl dX5_farthest_23
theorem eX5_farthest_24 : ev X m_X5_farthest 24 [a0, a1, a2, a3, a4] (vR r :: st) mem = evb X (fget mem r 5 11) m_X5_farthest 27 [a0, a1, a2, a3, a4] st mem := ke_getf rfl dX5_farthest_24
theorem eX5_farthest_27 : ev X m_X5_farthest 27 [a0, a1, a2, a3, a4] (vI y :: vI x :: st) mem = if x < y then ev X m_X5_farthest 30 [a0, a1, a2, a3, a4] st mem else ev X m_X5_farthest 84 [a0, a1, a2, a3, a4] st mem := ke_icmp_ge dX5_farthest_27 rfl
theorem eX5_farthest_30 : ev X m_X5_farthest 30 [vR r, a1, a2, a3, a4] st mem = ev X m_X5_farthest 31 [vR r, a1, a2, a3, a4] (vR r :: st) mem := ke_aload_n rfl dX5_farthest_30
theorem eX5_farthest_31 : ev X m_X5_farthest 31 [a0, a1, a2, a3, a4] (vR r :: st) mem = evb X (fget mem r 5 3) m_X5_farthest 34 [a0, a1, a2, a3, a4] st mem := ke_getf rfl dX5_farthest_31
theorem eX5_farthest_34 : ev X m_X5_farthest 34 [a0, a1, a2, vI x, a4] st mem = ev X m_X5_farthest 35 [a0, a1, a2, vI x, a4] (vI x :: st) mem := ke_iload_n rfl dX5_farthest_34
theorem eX5_farthest_35 : ev X m_X5_farthest 35 [a0, a1, a2, a3, a4] (vI x :: vR r :: st) mem = evb X (aget mem r x) m_X5_farthest 36 [a0, a1, a2, a3, a4] st mem := ke_iaload dX5_farthest_35
theorem eX5_farthest_36 : ev X m_X5_farthest 36 [vR r, a1, a2, a3, a4] st mem = ev X m_X5_farthest 37 [vR r, a1, a2, a3, a4] (vR r :: st) mem := ke_aload_n rfl dX5_farthest_36
theorem eX5_farthest_37 : ev X m_X5_farthest 37 [a0, a1, a2, a3, a4] (vR r :: st) mem = evb X (fget mem r 5 3) m_X5_farthest 40 [a0, a1, a2, a3, a4] st mem := ke_getf rfl dX5_farthest_37
theorem eX5_farthest_40 : ev X m_X5_farthest 40 [a0, a1, a2, a3, vI x] st mem = ev X m_X5_farthest 42 [a0, a1, a2, a3, vI x] (vI x :: st) mem := ke_iload rfl dX5_farthest_40
theorem eX5_farthest_42 : ev X m_X5_farthest 42 [a0, a1, a2, a3, a4] (vI x :: vR r :: st) mem = evb X (aget mem r x) m_X5_farthest 43 [a0, a1, a2, a3, a4] st mem := ke_iaload dX5_farthest_42
theorem eX5_farthest_43 : ev X m_X5_farthest 43 [a0, a1, a2, a3, a4] (vI n1 :: vI n0 :: []) mem = evc X (ev X m_X5_apart 0 [vI n0, vI n1] [] mem) m_X5_farthest 46 [a0, a1, a2, a3, a4] [] := ke_callS (m' := m_X5_apart) (as := [vI n0, vI n1]) (n := 2) (rest := []) dX5_farthest_43 rfl (by decide) rfl rfl rfl rfl rfl (Nat.le_of_ble_eq_true rfl) (Nat.le_of_ble_eq_true rfl) rfl
theorem eX5_farthest_46 : ev X m_X5_farthest 46 [a0, a1, vI x, a3, a4] st mem = ev X m_X5_farthest 47 [a0, a1, vI x, a3, a4] (vI x :: st) mem := ke_iload_n rfl dX5_farthest_46
theorem eX5_farthest_47 : ev X m_X5_farthest 47 [a0, a1, a2, a3, a4] (vI y :: vI x :: st) mem = if y < x then ev X m_X5_farthest 53 [a0, a1, a2, a3, a4] st mem else ev X m_X5_farthest 50 [a0, a1, a2, a3, a4] st mem := ke_icmp_gt dX5_farthest_47 rfl
theorem eX5_farthest_50 : ev X m_X5_farthest 50 [a0, a1, a2, a3, a4] st mem = ev X m_X5_farthest 78 [a0, a1, a2, a3, a4] st mem := ke_goto dX5_farthest_50 rfl
theorem eX5_farthest_53 : ev X m_X5_farthest 53 [a0, a1, a2, a3, a4] st mem = ev X m_X5_farthest 55 [a0, a1, a2, a3, a4] (vI 10 :: st) mem := ke_bipush (by decide) dX5_farthest_53
theorem eX5_farthest_55 : ev X m_X5_farthest 55 [a0, a1, a2, vI x, a4] st mem = ev X m_X5_farthest 56 [a0, a1, a2, vI x, a4] (vI x :: st) mem := ke_iload_n rfl dX5_farthest_55
theorem eX5_farthest_56 : ev X m_X5_farthest 56 [a0, a1, a2, a3, a4] (vI y :: vI x :: st) mem = ev X m_X5_farthest 57 [a0, a1, a2, a3, a4] (vI (w32 (x * y)) :: st) mem := ke_imul dX5_farthest_56
theorem eX5_farthest_57 : ev X m_X5_farthest 57 [a0, a1, a2, a3, vI x] st mem = ev X m_X5_farthest 59 [a0, a1, a2, a3, vI x] (vI x :: st) mem := ke_iload rfl dX5_farthest_57
theorem eX5_farthest_59 : ev X m_X5_farthest 59 [a0, a1, a2, a3, a4] (vI y :: vI x :: st) mem = ev X m_X5_farthest 60 [a0, a1, a2, a3, a4] (vI (w32 (x + y)) :: st) mem := ke_iadd dX5_farthest_59
theorem eX5_farthest_60 : ev X m_X5_farthest 60 [a0, a1, a2, a3, a4] (vI x :: st) mem = ev X m_X5_farthest 61 [a0, vI x, a2, a3, a4] st mem := ke_istore_n (Nat.le_of_ble_eq_true rfl) rfl dX5_farthest_60
theorem eX5_farthest_61 : ev X m_X5_farthest 61 [vR r, a1, a2, a3, a4] st mem = ev X m_X5_farthest 62 [vR r, a1, a2, a3, a4] (vR r :: st) mem := ke_aload_n rfl dX5_farthest_61
theorem eX5_farthest_62 : ev X m_X5_farthest 62 [a0, a1, a2, a3, a4] (vR r :: st) mem = evb X (fget mem r 5 3) m_X5_farthest 65 [a0, a1, a2, a3, a4] st mem := ke_getf rfl dX5_farthest_62
theorem eX5_farthest_65 : ev X m_X5_farthest 65 [a0, a1, a2, vI x, a4] st mem = ev X m_X5_farthest 66 [a0, a1, a2, vI x, a4] (vI x :: st) mem := ke_iload_n rfl dX5_farthest_65
theorem eX5_farthest_66 : ev X m_X5_farthest 66 [a0, a1, a2, a3, a4] (vI x :: vR r :: st) mem = evb X (aget mem r x) m_X5_farthest 67 [a0, a1, a2, a3, a4] st mem := ke_iaload dX5_farthest_66
theorem eX5_farthest_67 : ev X m_X5_farthest 67 [vR r, a1, a2, a3, a4] st mem = ev X m_X5_farthest 68 [vR r, a1, a2, a3, a4] (vR r :: st) mem := ke_aload_n rfl dX5_farthest_67
theorem eX5_farthest_68 : ev X m_X5_farthest 68 [a0, a1, a2, a3, a4] (vR r :: st) mem = evb X (fget mem r 5 3) m_X5_farthest 71 [a0, a1, a2, a3, a4] st mem := ke_getf rfl dX5_farthest_68
theorem eX5_farthest_71 : ev X m_X5_farthest 71 [a0, a1, a2, a3, vI x] st mem = ev X m_X5_farthest 73 [a0, a1, a2, a3, vI x] (vI x :: st) mem := ke_iload rfl dX5_farthest_71
theorem eX5_farthest_73 : ev X m_X5_farthest 73 [a0, a1, a2, a3, a4] (vI x :: vR r :: st) mem = evb X (aget mem r x) m_X5_farthest 74 [a0, a1, a2, a3, a4] st mem := ke_iaload dX5_farthest_73
theorem eX5_farthest_74 : ev X m_X5_farthest 74 [a0, a1, a2, a3, a4] (vI n1 :: vI n0 :: []) mem = evc X (ev X m_X5_apart 0 [vI n0, vI n1] [] mem) m_X5_farthest 77 [a0, a1, a2, a3, a4] [] := ke_callS (m' := m_X5_apart) (as := [vI n0, vI n1]) (n := 2) (rest := []) dX5_farthest_74 rfl (by decide) rfl rfl rfl rfl rfl (Nat.le_of_ble_eq_true rfl) (Nat.le_of_ble_eq_true rfl) rfl
theorem eX5_farthest_77 : ev X m_X5_farthest 77 [a0, a1, a2, a3, a4] (vI x :: st) mem = ev X m_X5_farthest 78 [a0, a1, vI x, a3, a4] st mem := ke_istore_n (Nat.le_of_ble_eq_true rfl) rfl dX5_farthest_77
theorem eX5_farthest_78 : ev X m_X5_farthest 78 [a0, a1, a2, a3, vI x] st mem = ev X m_X5_farthest 81 [a0, a1, a2, a3, vI (w32 (x + 1))] st mem := ke_iinc rfl (Nat.le_of_ble_eq_true rfl) rfl dX5_farthest_78
theorem eX5_farthest_81 : ev X m_X5_farthest 81 [a0, a1, a2, a3, a4] st mem = ev X m_X5_farthest 21 [a0, a1, a2, a3, a4] st mem := ke_goto dX5_farthest_81 rfl
theorem eX5_farthest_84 : ev X m_X5_farthest 84 [a0, a1, a2, vI x, a4] st mem = ev X m_X5_farthest 87 [a0, a1, a2, vI (w32 (x + 1)), a4] st mem := ke_iinc rfl (Nat.le_of_ble_eq_true rfl) rfl dX5_farthest_84
theorem eX5_farthest_87 : ev X m_X5_farthest 87 [a0, a1, a2, a3, a4] st mem = ev X m_X5_farthest 8 [a0, a1, a2, a3, a4] st mem := ke_goto dX5_farthest_87 rfl
theorem eX5_farthest_90 : ev X m_X5_farthest 90 [a0, vI x, a2, a3, a4] st mem = ev X m_X5_farthest 91 [a0, vI x, a2, a3, a4] (vI x :: st) mem := ke_iload_n rfl dX5_farthest_90
theorem eX5_farthest_91 : ev X m_X5_farthest 91 [a0, a1, a2, a3, a4] [vI x] mem = some (some (vI x), mem) := ke_ireturn dX5_farthest_91 rfl
theorem eX5_fair_0 : ev X m_X5_fair 0 [a0, vI x, a2, a3, a4] st mem = ev X m_X5_fair 1 [a0, vI x, a2, a3, a4] (vI x :: st) mem := ke_iload_n rfl dX5_fair_0
theorem eX5_fair_1 : ev X m_X5_fair 1 [a0, a1, a2, a3, a4] st mem = ev X m_X5_fair 2 [a0, a1, a2, a3, a4] (vI 0 :: st) mem := ke_iconst (by decide) dX5_fair_1
theorem eX5_fair_2 : ev X m_X5_fair 2 [a0, a1, a2, a3, a4] st mem = ev X m_X5_fair 3 [a0, a1, a2, a3, a4] (vI 2 :: st) mem := ke_iconst (by decide) dX5_fair_2
theorem eX5_fair_3 : ev X m_X5_fair 3 [a0, a1, a2, a3, a4] (vI n2 :: vI n1 :: vI n0 :: []) mem = evc X (ev X m_X5_isIn 0 [vI n0, vI n1, vI n2] [] mem) m_X5_fair 6 [a0, a1, a2, a3, a4] [] := ke_callS (m' := m_X5_isIn) (as := [vI n0, vI n1, vI n2]) (n := 3) (rest := []) dX5_fair_3 rfl (by decide) rfl rfl rfl rfl rfl (Nat.le_of_ble_eq_true rfl) (Nat.le_of_ble_eq_true rfl) rfl
theorem eX5_fair_6 : ev X m_X5_fair 6 [a0, a1, a2, a3, a4] (vI x :: st) mem = if x = 0 then ev X m_X5_fair 9 [a0, a1, a2, a3, a4] st mem else ev X m_X5_fair 16 [a0, a1, a2, a3, a4] st mem := ke_if_ne dX5_fair_6 rfl
theorem eX5_fair_9 : ev X m_X5_fair 9 [vR r, a1, a2, a3, a4] st mem = ev X m_X5_fair 10 [vR r, a1, a2, a3, a4] (vR r :: st) mem := ke_aload_n rfl dX5_fair_9
theorem eX5_fair_10 : ev X m_X5_fair 10 [a0, a1, a2, a3, a4] st mem = ev X m_X5_fair 12 [a0, a1, a2, a3, a4] (vI (-2) :: st) mem := ke_bipush (by decide) dX5_fair_10
theorem eX5_fair_12 : ev X m_X5_fair 12 [a0, a1, a2, a3, a4] (vI n0 :: vR r :: []) mem = evc X (gR mem r 5 (ev X m_X5_no 0 [vR r, vI n0] [] mem)) m_X5_fair 15 [a0, a1, a2, a3, a4] [] := ke_callV (m' := m_X5_no) (as := [vI n0]) (n := 1) (rest := []) dX5_fair_12 rfl rfl rfl rfl rfl rfl (Nat.le_of_ble_eq_true rfl) (Nat.le_of_ble_eq_true rfl) (Nat.le_of_ble_eq_true rfl) rfl
theorem eX5_fair_15 : ev X m_X5_fair 15 [a0, a1, a2, a3, a4] [vI x] mem = some (some (vI x), mem) := ke_ireturn dX5_fair_15 rfl
theorem eX5_fair_16 : ev X m_X5_fair 16 [a0, vI x, a2, a3, a4] st mem = ev X m_X5_fair 17 [a0, vI x, a2, a3, a4] (vI x :: st) mem := ke_iload_n rfl dX5_fair_16
theorem eX5_fair_17 : ev X m_X5_fair 17 [a0, a1, a2, a3, a4] st mem = ev X m_X5_fair 18 [a0, a1, a2, a3, a4] (vI 2 :: st) mem := ke_iconst (by decide) dX5_fair_17
theorem eX5_fair_18 : ev X m_X5_fair 18 [a0, a1, a2, a3, a4] (vI y :: vI x :: st) mem = if x = y then ev X m_X5_fair 21 [a0, a1, a2, a3, a4] st mem else ev X m_X5_fair 26 [a0, a1, a2, a3, a4] st mem := ke_icmp_ne dX5_fair_18 rfl
theorem eX5_fair_21 : ev X m_X5_fair 21 [vR r, a1, a2, a3, a4] st mem = ev X m_X5_fair 22 [vR r, a1, a2, a3, a4] (vR r :: st) mem := ke_aload_n rfl dX5_fair_21
theorem eX5_fair_22 : ev X m_X5_fair 22 [a0, a1, a2, a3, a4] (vR r :: []) mem = evc X (gR mem r 5 (ev X m_X5_pairs 0 [vR r, vS, vS, vS] [] mem)) m_X5_fair 25 [a0, a1, a2, a3, a4] [] := ke_callV (m' := m_X5_pairs) (as := []) (n := 0) (rest := []) dX5_fair_22 rfl rfl rfl rfl rfl rfl (Nat.le_of_ble_eq_true rfl) (Nat.le_of_ble_eq_true rfl) (Nat.le_of_ble_eq_true rfl) rfl
theorem eX5_fair_25 : ev X m_X5_fair 25 [a0, a1, a2, a3, a4] [vI x] mem = some (some (vI x), mem) := ke_ireturn dX5_fair_25 rfl
theorem eX5_fair_26 : ev X m_X5_fair 26 [a0, a1, a2, a3, a4] st mem = ev X m_X5_fair 28 [a0, a1, a2, a3, a4] (vI (-9) :: st) mem := ke_bipush (by decide) dX5_fair_26
theorem eX5_fair_28 : ev X m_X5_fair 28 [a0, a1, a2, a3, a4] (vI x :: st) mem = ev X m_X5_fair 29 [a0, a1, vI x, a3, a4] st mem := ke_istore_n (Nat.le_of_ble_eq_true rfl) rfl dX5_fair_28
theorem eX5_fair_29 : ev X m_X5_fair 29 [a0, a1, a2, a3, a4] st mem = ev X m_X5_fair 31 [a0, a1, a2, a3, a4] (vI (-9) :: st) mem := ke_bipush (by decide) dX5_fair_29
theorem eX5_fair_31 : ev X m_X5_fair 31 [a0, a1, a2, a3, a4] (vI x :: st) mem = ev X m_X5_fair 32 [a0, a1, a2, vI x, a4] st mem := ke_istore_n (Nat.le_of_ble_eq_true rfl) rfl dX5_fair_31
theorem eX5_fair_32 : ev X m_X5_fair 32 [a0, a1, a2, a3, a4] st mem = ev X m_X5_fair 33 [a0, a1, a2, a3, a4] (vI 0 :: st) mem := ke_iconst (by decide) dX5_fair_32
theorem eX5_fair_33 : ev X m_X5_fair 33 [a0, a1, a2, a3, a4] (vI x :: st) mem = ev X m_X5_fair 35 [a0, a1, a2, a3, vI x] st mem := ke_istore (Nat.le_of_ble_eq_true rfl) rfl dX5_fair_33
theorem eX5_fair_35 : ev X m_X5_fair 35 [a0, a1, a2, a3, vI x] st mem = ev X m_X5_fair 37 [a0, a1, a2, a3, vI x] (vI x :: st) mem := ke_iload rfl dX5_fair_35
theorem eX5_fair_37 : ev X m_X5_fair 37 [vR r, a1, a2, a3, a4] st mem = ev X m_X5_fair 38 [vR r, a1, a2, a3, a4] (vR r :: st) mem := ke_aload_n rfl dX5_fair_37
theorem eX5_fair_38 : ev X m_X5_fair 38 [a0, a1, a2, a3, a4] (vR r :: st) mem = evb X (fget mem r 5 11) m_X5_fair 41 [a0, a1, a2, a3, a4] st mem := ke_getf rfl dX5_fair_38
theorem eX5_fair_41 : ev X m_X5_fair 41 [a0, a1, a2, a3, a4] (vI y :: vI x :: st) mem = if x < y then ev X m_X5_fair 44 [a0, a1, a2, a3, a4] st mem else ev X m_X5_fair 73 [a0, a1, a2, a3, a4] st mem := ke_icmp_ge dX5_fair_41 rfl
theorem eX5_fair_44 : ev X m_X5_fair 44 [vR r, a1, a2, a3, a4] st mem = ev X m_X5_fair 45 [vR r, a1, a2, a3, a4] (vR r :: st) mem := ke_aload_n rfl dX5_fair_44
theorem eX5_fair_45 : ev X m_X5_fair 45 [a0, a1, a2, a3, vI x] st mem = ev X m_X5_fair 47 [a0, a1, a2, a3, vI x] (vI x :: st) mem := ke_iload rfl dX5_fair_45
theorem eX5_fair_47 : ev X m_X5_fair 47 [a0, a1, a2, a3, a4] (vI n0 :: vR r :: []) mem = evc X (gR mem r 5 (ev X m_X5_maliceFor 0 [vR r, vI n0, vS, vS] [] mem)) m_X5_fair 50 [a0, a1, a2, a3, a4] [] := ke_callV (m' := m_X5_maliceFor) (as := [vI n0]) (n := 1) (rest := []) dX5_fair_47 rfl rfl rfl rfl rfl rfl (Nat.le_of_ble_eq_true rfl) (Nat.le_of_ble_eq_true rfl) (Nat.le_of_ble_eq_true rfl) rfl
theorem eX5_fair_50 : ev X m_X5_fair 50 [a0, a1, a2, vI x, a4] st mem = ev X m_X5_fair 51 [a0, a1, a2, vI x, a4] (vI x :: st) mem := ke_iload_n rfl dX5_fair_50
theorem eX5_fair_51 : ev X m_X5_fair 51 [a0, a1, a2, a3, a4] (vI y :: vI x :: st) mem = if y < x then ev X m_X5_fair 57 [a0, a1, a2, a3, a4] st mem else ev X m_X5_fair 54 [a0, a1, a2, a3, a4] st mem := ke_icmp_gt dX5_fair_51 rfl
theorem eX5_fair_54 : ev X m_X5_fair 54 [a0, a1, a2, a3, a4] st mem = ev X m_X5_fair 67 [a0, a1, a2, a3, a4] st mem := ke_goto dX5_fair_54 rfl
theorem eX5_fair_57 : ev X m_X5_fair 57 [a0, a1, a2, a3, vI x] st mem = ev X m_X5_fair 59 [a0, a1, a2, a3, vI x] (vI x :: st) mem := ke_iload rfl dX5_fair_57
theorem eX5_fair_59 : ev X m_X5_fair 59 [a0, a1, a2, a3, a4] (vI x :: st) mem = ev X m_X5_fair 60 [a0, a1, vI x, a3, a4] st mem := ke_istore_n (Nat.le_of_ble_eq_true rfl) rfl dX5_fair_59
theorem eX5_fair_60 : ev X m_X5_fair 60 [vR r, a1, a2, a3, a4] st mem = ev X m_X5_fair 61 [vR r, a1, a2, a3, a4] (vR r :: st) mem := ke_aload_n rfl dX5_fair_60
theorem eX5_fair_61 : ev X m_X5_fair 61 [a0, a1, a2, a3, vI x] st mem = ev X m_X5_fair 63 [a0, a1, a2, a3, vI x] (vI x :: st) mem := ke_iload rfl dX5_fair_61
theorem eX5_fair_63 : ev X m_X5_fair 63 [a0, a1, a2, a3, a4] (vI n0 :: vR r :: []) mem = evc X (gR mem r 5 (ev X m_X5_maliceFor 0 [vR r, vI n0, vS, vS] [] mem)) m_X5_fair 66 [a0, a1, a2, a3, a4] [] := ke_callV (m' := m_X5_maliceFor) (as := [vI n0]) (n := 1) (rest := []) dX5_fair_63 rfl rfl rfl rfl rfl rfl (Nat.le_of_ble_eq_true rfl) (Nat.le_of_ble_eq_true rfl) (Nat.le_of_ble_eq_true rfl) rfl
theorem eX5_fair_66 : ev X m_X5_fair 66 [a0, a1, a2, a3, a4] (vI x :: st) mem = ev X m_X5_fair 67 [a0, a1, a2, vI x, a4] st mem := ke_istore_n (Nat.le_of_ble_eq_true rfl) rfl dX5_fair_66
theorem eX5_fair_67 : ev X m_X5_fair 67 [a0, a1, a2, a3, vI x] st mem = ev X m_X5_fair 70 [a0, a1, a2, a3, vI (w32 (x + 1))] st mem := ke_iinc rfl (Nat.le_of_ble_eq_true rfl) rfl dX5_fair_67
theorem eX5_fair_70 : ev X m_X5_fair 70 [a0, a1, a2, a3, a4] st mem = ev X m_X5_fair 35 [a0, a1, a2, a3, a4] st mem := ke_goto dX5_fair_70 rfl
theorem eX5_fair_73 : ev X m_X5_fair 73 [a0, vI x, a2, a3, a4] st mem = ev X m_X5_fair 74 [a0, vI x, a2, a3, a4] (vI x :: st) mem := ke_iload_n rfl dX5_fair_73
theorem eX5_fair_74 : ev X m_X5_fair 74 [a0, a1, a2, a3, a4] (vI x :: st) mem = if x = 0 then ev X m_X5_fair 77 [a0, a1, a2, a3, a4] st mem else ev X m_X5_fair 81 [a0, a1, a2, a3, a4] st mem := ke_if_ne dX5_fair_74 rfl
theorem eX5_fair_77 : ev X m_X5_fair 77 [a0, a1, vI x, a3, a4] st mem = ev X m_X5_fair 78 [a0, a1, vI x, a3, a4] (vI x :: st) mem := ke_iload_n rfl dX5_fair_77
theorem eX5_fair_78 : ev X m_X5_fair 78 [a0, a1, a2, a3, a4] st mem = ev X m_X5_fair 82 [a0, a1, a2, a3, a4] st mem := ke_goto dX5_fair_78 rfl
theorem eX5_fair_81 : ev X m_X5_fair 81 [a0, a1, a2, vI x, a4] st mem = ev X m_X5_fair 82 [a0, a1, a2, vI x, a4] (vI x :: st) mem := ke_iload_n rfl dX5_fair_81
theorem eX5_fair_82 : ev X m_X5_fair 82 [a0, a1, a2, a3, a4] [vI x] mem = some (some (vI x), mem) := ke_ireturn dX5_fair_82 rfl
theorem eX5_pairs_0 : ev X m_X5_pairs 0 [a0, a1, a2, a3] st mem = ev X m_X5_pairs 1 [a0, a1, a2, a3] (vI 0 :: st) mem := ke_iconst (by decide) dX5_pairs_0
theorem eX5_pairs_1 : ev X m_X5_pairs 1 [a0, a1, a2, a3] (vI x :: st) mem = ev X m_X5_pairs 2 [a0, vI x, a2, a3] st mem := ke_istore_n (Nat.le_of_ble_eq_true rfl) rfl dX5_pairs_1
theorem eX5_pairs_2 : ev X m_X5_pairs 2 [a0, a1, a2, a3] st mem = ev X m_X5_pairs 3 [a0, a1, a2, a3] (vI 0 :: st) mem := ke_iconst (by decide) dX5_pairs_2
theorem eX5_pairs_3 : ev X m_X5_pairs 3 [a0, a1, a2, a3] (vI x :: st) mem = ev X m_X5_pairs 4 [a0, a1, vI x, a3] st mem := ke_istore_n (Nat.le_of_ble_eq_true rfl) rfl dX5_pairs_3
theorem eX5_pairs_4 : ev X m_X5_pairs 4 [a0, a1, vI x, a3] st mem = ev X m_X5_pairs 5 [a0, a1, vI x, a3] (vI x :: st) mem := ke_iload_n rfl dX5_pairs_4
theorem eX5_pairs_5 : ev X m_X5_pairs 5 [vR r, a1, a2, a3] st mem = ev X m_X5_pairs 6 [vR r, a1, a2, a3] (vR r :: st) mem := ke_aload_n rfl dX5_pairs_5
theorem eX5_pairs_6 : ev X m_X5_pairs 6 [a0, a1, a2, a3] (vR r :: st) mem = evb X (fget mem r 5 11) m_X5_pairs 9 [a0, a1, a2, a3] st mem := ke_getf rfl dX5_pairs_6
theorem eX5_pairs_9 : ev X m_X5_pairs 9 [a0, a1, a2, a3] (vI y :: vI x :: st) mem = if x < y then ev X m_X5_pairs 12 [a0, a1, a2, a3] st mem else ev X m_X5_pairs 46 [a0, a1, a2, a3] st mem := ke_icmp_ge dX5_pairs_9 rfl
theorem eX5_pairs_12 : ev X m_X5_pairs 12 [vR r, a1, a2, a3] st mem = ev X m_X5_pairs 13 [vR r, a1, a2, a3] (vR r :: st) mem := ke_aload_n rfl dX5_pairs_12
theorem eX5_pairs_13 : ev X m_X5_pairs 13 [a0, a1, vI x, a3] st mem = ev X m_X5_pairs 14 [a0, a1, vI x, a3] (vI x :: st) mem := ke_iload_n rfl dX5_pairs_13
theorem eX5_pairs_14 : ev X m_X5_pairs 14 [a0, a1, a2, a3] (vI n0 :: vR r :: []) mem = evc X (gR mem r 5 (ev X m_X5_enemyOf 0 [vR r, vI n0] [] mem)) m_X5_pairs 17 [a0, a1, a2, a3] [] := ke_callV (m' := m_X5_enemyOf) (as := [vI n0]) (n := 1) (rest := []) dX5_pairs_14 rfl rfl rfl rfl rfl rfl (Nat.le_of_ble_eq_true rfl) (Nat.le_of_ble_eq_true rfl) (Nat.le_of_ble_eq_true rfl) rfl
theorem eX5_pairs_17 : ev X m_X5_pairs 17 [a0, a1, a2, a3] (vI x :: st) mem = ev X m_X5_pairs 18 [a0, a1, a2, vI x] st mem := ke_istore_n (Nat.le_of_ble_eq_true rfl) rfl dX5_pairs_17
theorem eX5_pairs_18 : ev X m_X5_pairs 18 [a0, vI x, a2, a3] st mem = ev X m_X5_pairs 19 [a0, vI x, a2, a3] (vI x :: st) mem := ke_iload_n rfl dX5_pairs_18
theorem eX5_pairs_19 : ev X m_X5_pairs 19 [a0, a1, a2, vI x] st mem = ev X m_X5_pairs 20 [a0, a1, a2, vI x] (vI x :: st) mem := ke_iload_n rfl dX5_pairs_19
theorem eX5_pairs_20 : ev X m_X5_pairs 20 [a0, a1, vI x, a3] st mem = ev X m_X5_pairs 21 [a0, a1, vI x, a3] (vI x :: st) mem := ke_iload_n rfl dX5_pairs_20
theorem eX5_pairs_21 : ev X m_X5_pairs 21 [a0, a1, a2, a3] (vI y :: vI x :: st) mem = if y < x then ev X m_X5_pairs 24 [a0, a1, a2, a3] st mem else ev X m_X5_pairs 37 [a0, a1, a2, a3] st mem := ke_icmp_le dX5_pairs_21 rfl
theorem eX5_pairs_24 : ev X m_X5_pairs 24 [vR r, a1, a2, a3] st mem = ev X m_X5_pairs 25 [vR r, a1, a2, a3] (vR r :: st) mem := ke_aload_n rfl dX5_pairs_24
theorem eX5_pairs_25 : ev X m_X5_pairs 25 [a0, a1, a2, vI x] st mem = ev X m_X5_pairs 26 [a0, a1, a2, vI x] (vI x :: st) mem := ke_iload_n rfl dX5_pairs_25
theorem eX5_pairs_26 : ev X m_X5_pairs 26 [a0, a1, a2, a3] (vI n0 :: vR r :: [s0]) mem = evc X (gR mem r 5 (ev X m_X5_enemyOf 0 [vR r, vI n0] [] mem)) m_X5_pairs 29 [a0, a1, a2, a3] [s0] := ke_callV (m' := m_X5_enemyOf) (as := [vI n0]) (n := 1) (rest := [s0]) dX5_pairs_26 rfl rfl rfl rfl rfl rfl (Nat.le_of_ble_eq_true rfl) (Nat.le_of_ble_eq_true rfl) (Nat.le_of_ble_eq_true rfl) rfl
theorem eX5_pairs_29 : ev X m_X5_pairs 29 [a0, a1, vI x, a3] st mem = ev X m_X5_pairs 30 [a0, a1, vI x, a3] (vI x :: st) mem := ke_iload_n rfl dX5_pairs_29
theorem eX5_pairs_30 : ev X m_X5_pairs 30 [a0, a1, a2, a3] (vI y :: vI x :: st) mem = if x = y then ev X m_X5_pairs 33 [a0, a1, a2, a3] st mem else ev X m_X5_pairs 37 [a0, a1, a2, a3] st mem := ke_icmp_ne dX5_pairs_30 rfl
theorem eX5_pairs_33 : ev X m_X5_pairs 33 [a0, a1, a2, a3] st mem = ev X m_X5_pairs 34 [a0, a1, a2, a3] (vI 1 :: st) mem := ke_iconst (by decide) dX5_pairs_33
theorem eX5_pairs_34 : ev X m_X5_pairs 34 [a0, a1, a2, a3] st mem = ev X m_X5_pairs 38 [a0, a1, a2, a3] st mem := ke_goto dX5_pairs_34 rfl
theorem eX5_pairs_37 : ev X m_X5_pairs 37 [a0, a1, a2, a3] st mem = ev X m_X5_pairs 38 [a0, a1, a2, a3] (vI 0 :: st) mem := ke_iconst (by decide) dX5_pairs_37
theorem eX5_pairs_38 : ev X m_X5_pairs 38 [a0, a1, a2, a3] (vI y :: vI x :: st) mem = ev X m_X5_pairs 39 [a0, a1, a2, a3] (vI (w32 (x + y)) :: st) mem := ke_iadd dX5_pairs_38
theorem eX5_pairs_39 : ev X m_X5_pairs 39 [a0, a1, a2, a3] (vI x :: st) mem = ev X m_X5_pairs 40 [a0, vI x, a2, a3] st mem := ke_istore_n (Nat.le_of_ble_eq_true rfl) rfl dX5_pairs_39
theorem eX5_pairs_40 : ev X m_X5_pairs 40 [a0, a1, vI x, a3] st mem = ev X m_X5_pairs 43 [a0, a1, vI (w32 (x + 1)), a3] st mem := ke_iinc rfl (Nat.le_of_ble_eq_true rfl) rfl dX5_pairs_40
theorem eX5_pairs_43 : ev X m_X5_pairs 43 [a0, a1, a2, a3] st mem = ev X m_X5_pairs 4 [a0, a1, a2, a3] st mem := ke_goto dX5_pairs_43 rfl
theorem eX5_pairs_46 : ev X m_X5_pairs 46 [a0, vI x, a2, a3] st mem = ev X m_X5_pairs 47 [a0, vI x, a2, a3] (vI x :: st) mem := ke_iload_n rfl dX5_pairs_46
theorem eX5_pairs_47 : ev X m_X5_pairs 47 [a0, a1, a2, a3] [vI x] mem = some (some (vI x), mem) := ke_ireturn dX5_pairs_47 rfl
theorem eX5_maliceFor_0 : ev X m_X5_maliceFor 0 [a0, a1, a2, a3] st mem = ev X m_X5_maliceFor 1 [a0, a1, a2, a3] (vI 0 :: st) mem := ke_iconst (by decide) dX5_maliceFor_0
theorem eX5_maliceFor_1 : ev X m_X5_maliceFor 1 [a0, a1, a2, a3] (vI x :: st) mem = ev X m_X5_maliceFor 2 [a0, a1, vI x, a3] st mem := ke_istore_n (Nat.le_of_ble_eq_true rfl) rfl dX5_maliceFor_1
theorem eX5_maliceFor_2 : ev X m_X5_maliceFor 2 [a0, a1, a2, a3] st mem = ev X m_X5_maliceFor 3 [a0, a1, a2, a3] (vI 0 :: st) mem := ke_iconst (by decide) dX5_maliceFor_2
theorem eX5_maliceFor_3 : ev X m_X5_maliceFor 3 [a0, a1, a2, a3] (vI x :: st) mem = ev X m_X5_maliceFor 4 [a0, a1, a2, vI x] st mem := ke_istore_n (Nat.le_of_ble_eq_true rfl) rfl dX5_maliceFor_3
theorem eX5_maliceFor_4 : ev X m_X5_maliceFor 4 [a0, a1, a2, vI x] st mem = ev X m_X5_maliceFor 5 [a0, a1, a2, vI x] (vI x :: st) mem := ke_iload_n rfl dX5_maliceFor_4
theorem eX5_maliceFor_5 : ev X m_X5_maliceFor 5 [vR r, a1, a2, a3] st mem = ev X m_X5_maliceFor 6 [vR r, a1, a2, a3] (vR r :: st) mem := ke_aload_n rfl dX5_maliceFor_5
theorem eX5_maliceFor_6 : ev X m_X5_maliceFor 6 [a0, a1, a2, a3] (vR r :: st) mem = evb X (fget mem r 5 11) m_X5_maliceFor 9 [a0, a1, a2, a3] st mem := ke_getf rfl dX5_maliceFor_6
theorem eX5_maliceFor_9 : ev X m_X5_maliceFor 9 [a0, a1, a2, a3] (vI y :: vI x :: st) mem = if x < y then ev X m_X5_maliceFor 12 [a0, a1, a2, a3] st mem else ev X m_X5_maliceFor 36 [a0, a1, a2, a3] st mem := ke_icmp_ge dX5_maliceFor_9 rfl
theorem eX5_maliceFor_12 : ev X m_X5_maliceFor 12 [a0, a1, vI x, a3] st mem = ev X m_X5_maliceFor 13 [a0, a1, vI x, a3] (vI x :: st) mem := ke_iload_n rfl dX5_maliceFor_12
theorem eX5_maliceFor_13 : ev X m_X5_maliceFor 13 [a0, a1, a2, vI x] st mem = ev X m_X5_maliceFor 14 [a0, a1, a2, vI x] (vI x :: st) mem := ke_iload_n rfl dX5_maliceFor_13
theorem eX5_maliceFor_14 : ev X m_X5_maliceFor 14 [a0, vI x, a2, a3] st mem = ev X m_X5_maliceFor 15 [a0, vI x, a2, a3] (vI x :: st) mem := ke_iload_n rfl dX5_maliceFor_14
theorem eX5_maliceFor_15 : ev X m_X5_maliceFor 15 [a0, a1, a2, a3] (vI y :: vI x :: st) mem = if x = y then ev X m_X5_maliceFor 18 [a0, a1, a2, a3] st mem else ev X m_X5_maliceFor 22 [a0, a1, a2, a3] st mem := ke_icmp_ne dX5_maliceFor_15 rfl
theorem eX5_maliceFor_18 : ev X m_X5_maliceFor 18 [a0, a1, a2, a3] st mem = ev X m_X5_maliceFor 19 [a0, a1, a2, a3] (vI 0 :: st) mem := ke_iconst (by decide) dX5_maliceFor_18
theorem eX5_maliceFor_19 : ev X m_X5_maliceFor 19 [a0, a1, a2, a3] st mem = ev X m_X5_maliceFor 28 [a0, a1, a2, a3] st mem := ke_goto dX5_maliceFor_19 rfl
theorem eX5_maliceFor_22 : ev X m_X5_maliceFor 22 [vR r, a1, a2, a3] st mem = ev X m_X5_maliceFor 23 [vR r, a1, a2, a3] (vR r :: st) mem := ke_aload_n rfl dX5_maliceFor_22
theorem eX5_maliceFor_23 : ev X m_X5_maliceFor 23 [a0, a1, a2, vI x] st mem = ev X m_X5_maliceFor 24 [a0, a1, a2, vI x] (vI x :: st) mem := ke_iload_n rfl dX5_maliceFor_23
theorem eX5_maliceFor_24 : ev X m_X5_maliceFor 24 [a0, vI x, a2, a3] st mem = ev X m_X5_maliceFor 25 [a0, vI x, a2, a3] (vI x :: st) mem := ke_iload_n rfl dX5_maliceFor_24
theorem eX5_maliceFor_25 : ev X m_X5_maliceFor 25 [a0, a1, a2, a3] (vI n1 :: vI n0 :: vR r :: [s0]) mem = evc X (gR mem r 5 (ev X m_X5_maliceOf 0 [vR r, vI n0, vI n1, vS, vS] [] mem)) m_X5_maliceFor 28 [a0, a1, a2, a3] [s0] := ke_callV (m' := m_X5_maliceOf) (as := [vI n0, vI n1]) (n := 2) (rest := [s0]) dX5_maliceFor_25 rfl rfl rfl rfl rfl rfl (Nat.le_of_ble_eq_true rfl) (Nat.le_of_ble_eq_true rfl) (Nat.le_of_ble_eq_true rfl) rfl
theorem eX5_maliceFor_28 : ev X m_X5_maliceFor 28 [a0, a1, a2, a3] (vI y :: vI x :: st) mem = ev X m_X5_maliceFor 29 [a0, a1, a2, a3] (vI (w32 (x + y)) :: st) mem := ke_iadd dX5_maliceFor_28
theorem eX5_maliceFor_29 : ev X m_X5_maliceFor 29 [a0, a1, a2, a3] (vI x :: st) mem = ev X m_X5_maliceFor 30 [a0, a1, vI x, a3] st mem := ke_istore_n (Nat.le_of_ble_eq_true rfl) rfl dX5_maliceFor_29
theorem eX5_maliceFor_30 : ev X m_X5_maliceFor 30 [a0, a1, a2, vI x] st mem = ev X m_X5_maliceFor 33 [a0, a1, a2, vI (w32 (x + 1))] st mem := ke_iinc rfl (Nat.le_of_ble_eq_true rfl) rfl dX5_maliceFor_30
theorem eX5_maliceFor_33 : ev X m_X5_maliceFor 33 [a0, a1, a2, a3] st mem = ev X m_X5_maliceFor 4 [a0, a1, a2, a3] st mem := ke_goto dX5_maliceFor_33 rfl
theorem eX5_maliceFor_36 : ev X m_X5_maliceFor 36 [a0, a1, vI x, a3] st mem = ev X m_X5_maliceFor 37 [a0, a1, vI x, a3] (vI x :: st) mem := ke_iload_n rfl dX5_maliceFor_36
theorem eX5_maliceFor_37 : ev X m_X5_maliceFor 37 [a0, a1, a2, a3] [vI x] mem = some (some (vI x), mem) := ke_ireturn dX5_maliceFor_37 rfl
theorem eX5_two_0 : ev X m_X5_two 0 [vR r, a1, a2, a3, a4, a5] st mem = ev X m_X5_two 1 [vR r, a1, a2, a3, a4, a5] (vR r :: st) mem := ke_aload_n rfl dX5_two_0
theorem eX5_two_1 : ev X m_X5_two 1 [a0, vI x, a2, a3, a4, a5] st mem = ev X m_X5_two 2 [a0, vI x, a2, a3, a4, a5] (vI x :: st) mem := ke_iload_n rfl dX5_two_1
theorem eX5_two_2 : ev X m_X5_two 2 [a0, a1, vI x, a3, a4, a5] st mem = ev X m_X5_two 3 [a0, a1, vI x, a3, a4, a5] (vI x :: st) mem := ke_iload_n rfl dX5_two_2
theorem eX5_two_3 : ev X m_X5_two 3 [a0, a1, a2, a3, a4, a5] (vI n1 :: vI n0 :: vR r :: []) mem = evc X (gR mem r 5 (ev X m_X5_areTwo 0 [vR r, vI n0, vI n1] [] mem)) m_X5_two 6 [a0, a1, a2, a3, a4, a5] [] := ke_callV (m' := m_X5_areTwo) (as := [vI n0, vI n1]) (n := 2) (rest := []) dX5_two_3 rfl rfl rfl rfl rfl rfl (Nat.le_of_ble_eq_true rfl) (Nat.le_of_ble_eq_true rfl) (Nat.le_of_ble_eq_true rfl) rfl
theorem eX5_two_6 : ev X m_X5_two 6 [a0, a1, a2, a3, a4, a5] (vI x :: st) mem = if x = 0 then ev X m_X5_two 9 [a0, a1, a2, a3, a4, a5] st mem else ev X m_X5_two 13 [a0, a1, a2, a3, a4, a5] st mem := ke_if_ne dX5_two_6 rfl
theorem eX5_two_9 : ev X m_X5_two 9 [a0, a1, a2, a3, a4, a5] st mem = ev X m_X5_two 10 [a0, a1, a2, a3, a4, a5] (vI (-1) :: st) mem := ke_iconst (by decide) dX5_two_9
theorem eX5_two_10 : ev X m_X5_two 10 [a0, a1, a2, a3, a4, a5] st mem = ev X m_X5_two 20 [a0, a1, a2, a3, a4, a5] st mem := ke_goto dX5_two_10 rfl
theorem eX5_two_13 : ev X m_X5_two 13 [a0, a1, a2, vI x, a4, a5] st mem = ev X m_X5_two 14 [a0, a1, a2, vI x, a4, a5] (vI x :: st) mem := ke_iload_n rfl dX5_two_13
theorem eX5_two_14 : ev X m_X5_two 14 [a0, a1, a2, a3, a4, a5] st mem = ev X m_X5_two 15 [a0, a1, a2, a3, a4, a5] (vI 1 :: st) mem := ke_iconst (by decide) dX5_two_14
theorem eX5_two_15 : ev X m_X5_two 15 [a0, a1, a2, a3, a4, a5] st mem = ev X m_X5_two 17 [a0, a1, a2, a3, a4, a5] (vI 60 :: st) mem := ke_bipush (by decide) dX5_two_15
theorem eX5_two_17 : ev X m_X5_two 17 [a0, a1, a2, a3, a4, a5] (vI n2 :: vI n1 :: vI n0 :: []) mem = evc X (ev X m_X5_bound 0 [vI n0, vI n1, vI n2] [] mem) m_X5_two 20 [a0, a1, a2, a3, a4, a5] [] := ke_callS (m' := m_X5_bound) (as := [vI n0, vI n1, vI n2]) (n := 3) (rest := []) dX5_two_17 rfl (by decide) rfl rfl rfl rfl rfl (Nat.le_of_ble_eq_true rfl) (Nat.le_of_ble_eq_true rfl) rfl
theorem eX5_two_20 : ev X m_X5_two 20 [a0, a1, a2, a3, a4, a5] (vI x :: st) mem = ev X m_X5_two 22 [a0, a1, a2, a3, vI x, a5] st mem := ke_istore (Nat.le_of_ble_eq_true rfl) rfl dX5_two_20
theorem eX5_two_22 : ev X m_X5_two 22 [a0, a1, a2, a3, vI x, a5] st mem = ev X m_X5_two 24 [a0, a1, a2, a3, vI x, a5] (vI x :: st) mem := ke_iload rfl dX5_two_22
theorem eX5_two_24 : ev X m_X5_two 24 [a0, a1, a2, a3, a4, a5] (vI x :: st) mem = if x = 0 then ev X m_X5_two 34 [a0, a1, a2, a3, a4, a5] st mem else ev X m_X5_two 27 [a0, a1, a2, a3, a4, a5] st mem := ke_if_eq dX5_two_24 rfl
theorem eX5_two_27 : ev X m_X5_two 27 [vR r, a1, a2, a3, a4, a5] st mem = ev X m_X5_two 28 [vR r, a1, a2, a3, a4, a5] (vR r :: st) mem := ke_aload_n rfl dX5_two_27
theorem eX5_two_28 : ev X m_X5_two 28 [a0, a1, a2, a3, vI x, a5] st mem = ev X m_X5_two 30 [a0, a1, a2, a3, vI x, a5] (vI x :: st) mem := ke_iload rfl dX5_two_28
theorem eX5_two_30 : ev X m_X5_two 30 [a0, a1, a2, a3, a4, a5] (vI n0 :: vR r :: []) mem = evc X (gR mem r 5 (ev X m_X5_no 0 [vR r, vI n0] [] mem)) m_X5_two 33 [a0, a1, a2, a3, a4, a5] [] := ke_callV (m' := m_X5_no) (as := [vI n0]) (n := 1) (rest := []) dX5_two_30 rfl rfl rfl rfl rfl rfl (Nat.le_of_ble_eq_true rfl) (Nat.le_of_ble_eq_true rfl) (Nat.le_of_ble_eq_true rfl) rfl
theorem eX5_two_33 : ev X m_X5_two 33 [a0, a1, a2, a3, a4, a5] [vI x] mem = some (some (vI x), mem) := ke_ireturn dX5_two_33 rfl
theorem eX5_two_34 : ev X m_X5_two 34 [vR r, a1, a2, a3, a4, a5] st mem = ev X m_X5_two 35 [vR r, a1, a2, a3, a4, a5] (vR r :: st) mem := ke_aload_n rfl dX5_two_34
theorem eX5_two_35 : ev X m_X5_two 35 [a0, vI x, a2, a3, a4, a5] st mem = ev X m_X5_two 36 [a0, vI x, a2, a3, a4, a5] (vI x :: st) mem := ke_iload_n rfl dX5_two_35
theorem eX5_two_36 : ev X m_X5_two 36 [a0, a1, vI x, a3, a4, a5] st mem = ev X m_X5_two 37 [a0, a1, vI x, a3, a4, a5] (vI x :: st) mem := ke_iload_n rfl dX5_two_36
theorem eX5_two_37 : ev X m_X5_two 37 [a0, a1, a2, vI x, a4, a5] st mem = ev X m_X5_two 38 [a0, a1, a2, vI x, a4, a5] (vI x :: st) mem := ke_iload_n rfl dX5_two_37
theorem eX5_two_38 : ev X m_X5_two 38 [a0, a1, a2, a3, a4, a5] (vI n2 :: vI n1 :: vI n0 :: vR r :: []) mem = evc X (gR mem r 5 (ev X m_X5_findBrought 0 [vR r, vI n0, vI n1, vI n2, vS] [] mem)) m_X5_two 41 [a0, a1, a2, a3, a4, a5] [] := ke_callV (m' := m_X5_findBrought) (as := [vI n0, vI n1, vI n2]) (n := 3) (rest := []) dX5_two_38 rfl rfl rfl rfl rfl rfl (Nat.le_of_ble_eq_true rfl) (Nat.le_of_ble_eq_true rfl) (Nat.le_of_ble_eq_true rfl) rfl
theorem eX5_two_41 : ev X m_X5_two 41 [a0, a1, a2, a3, a4, a5] st mem = ev X m_X5_two 42 [a0, a1, a2, a3, a4, a5] (vI 0 :: st) mem := ke_iconst (by decide) dX5_two_41
theorem eX5_two_42 : ev X m_X5_two 42 [a0, a1, a2, a3, a4, a5] (vI x :: st) mem = ev X m_X5_two 44 [a0, a1, a2, a3, a4, vI x] st mem := ke_istore (Nat.le_of_ble_eq_true rfl) rfl dX5_two_42
theorem eX5_two_44 : ev X m_X5_two 44 [a0, a1, a2, a3, a4, vI x] st mem = ev X m_X5_two 46 [a0, a1, a2, a3, a4, vI x] (vI x :: st) mem := ke_iload rfl dX5_two_44
theorem eX5_two_46 : ev X m_X5_two 46 [a0, a1, a2, a3, a4, a5] st mem = ev X m_X5_two 47 [a0, a1, a2, a3, a4, a5] (vI 4 :: st) mem := ke_iconst (by decide) dX5_two_46
theorem eX5_two_47 : ev X m_X5_two 47 [a0, a1, a2, a3, a4, a5] (vI y :: vI x :: st) mem = if x < y then ev X m_X5_two 50 [a0, a1, a2, a3, a4, a5] st mem else ev X m_X5_two 119 [a0, a1, a2, a3, a4, a5] st mem := ke_icmp_ge dX5_two_47 rfl
theorem eX5_two_50 : ev X m_X5_two 50 [vR r, a1, a2, a3, a4, a5] st mem = ev X m_X5_two 51 [vR r, a1, a2, a3, a4, a5] (vR r :: st) mem := ke_aload_n rfl dX5_two_50
theorem eX5_two_51 : ev X m_X5_two 51 [a0, a1, a2, a3, a4, a5] (vR r :: st) mem = evb X (fget mem r 5 25) m_X5_two 54 [a0, a1, a2, a3, a4, a5] st mem := ke_getf rfl dX5_two_51
theorem eX5_two_54 : ev X m_X5_two 54 [a0, a1, a2, a3, a4, a5] st mem = ev X m_X5_two 55 [a0, a1, a2, a3, a4, a5] (vI 2 :: st) mem := ke_iconst (by decide) dX5_two_54
theorem eX5_two_55 : ev X m_X5_two 55 [a0, a1, a2, a3, a4, vI x] st mem = ev X m_X5_two 57 [a0, a1, a2, a3, a4, vI x] (vI x :: st) mem := ke_iload rfl dX5_two_55
theorem eX5_two_57 : ev X m_X5_two 57 [a0, a1, a2, a3, a4, a5] st mem = ev X m_X5_two 58 [a0, a1, a2, a3, a4, a5] (vI 2 :: st) mem := ke_iconst (by decide) dX5_two_57
theorem eX5_two_58 : ev X m_X5_two 58 [a0, a1, a2, a3, a4, a5] (vI y :: vI x :: st) mem = ev X m_X5_two 59 [a0, a1, a2, a3, a4, a5] (vI (xor32 x y) :: st) mem := ke_ixor dX5_two_58
theorem eX5_two_59 : ev X m_X5_two 59 [a0, a1, a2, a3, a4, a5] (vI y :: vI x :: st) mem = ev X m_X5_two 60 [a0, a1, a2, a3, a4, a5] (vI (w32 (x * y)) :: st) mem := ke_imul dX5_two_59
theorem eX5_two_60 : ev X m_X5_two 60 [a0, a1, a2, a3, a4, a5] (vI x :: vR r :: st) mem = evb X (aget mem r x) m_X5_two 61 [a0, a1, a2, a3, a4, a5] st mem := ke_iaload dX5_two_60
theorem eX5_two_61 : ev X m_X5_two 61 [vR r, a1, a2, a3, a4, a5] st mem = ev X m_X5_two 62 [vR r, a1, a2, a3, a4, a5] (vR r :: st) mem := ke_aload_n rfl dX5_two_61
theorem eX5_two_62 : ev X m_X5_two 62 [a0, a1, a2, a3, a4, a5] (vR r :: st) mem = evb X (fget mem r 5 25) m_X5_two 65 [a0, a1, a2, a3, a4, a5] st mem := ke_getf rfl dX5_two_62
theorem eX5_two_65 : ev X m_X5_two 65 [a0, a1, a2, a3, a4, a5] st mem = ev X m_X5_two 66 [a0, a1, a2, a3, a4, a5] (vI 2 :: st) mem := ke_iconst (by decide) dX5_two_65
theorem eX5_two_66 : ev X m_X5_two 66 [a0, a1, a2, a3, a4, vI x] st mem = ev X m_X5_two 68 [a0, a1, a2, a3, a4, vI x] (vI x :: st) mem := ke_iload rfl dX5_two_66
theorem eX5_two_68 : ev X m_X5_two 68 [a0, a1, a2, a3, a4, a5] (vI y :: vI x :: st) mem = ev X m_X5_two 69 [a0, a1, a2, a3, a4, a5] (vI (w32 (x * y)) :: st) mem := ke_imul dX5_two_68
theorem eX5_two_69 : ev X m_X5_two 69 [a0, a1, a2, a3, a4, a5] (vI x :: vR r :: st) mem = evb X (aget mem r x) m_X5_two 70 [a0, a1, a2, a3, a4, a5] st mem := ke_iaload dX5_two_69
theorem eX5_two_70 : ev X m_X5_two 70 [a0, a1, a2, a3, a4, a5] (vI y :: vI x :: st) mem = if y < x then ev X m_X5_two 113 [a0, a1, a2, a3, a4, a5] st mem else ev X m_X5_two 73 [a0, a1, a2, a3, a4, a5] st mem := ke_icmp_gt dX5_two_70 rfl
theorem eX5_two_73 : ev X m_X5_two 73 [vR r, a1, a2, a3, a4, a5] st mem = ev X m_X5_two 74 [vR r, a1, a2, a3, a4, a5] (vR r :: st) mem := ke_aload_n rfl dX5_two_73
theorem eX5_two_74 : ev X m_X5_two 74 [a0, a1, a2, a3, a4, a5] (vR r :: st) mem = evb X (fget mem r 5 25) m_X5_two 77 [a0, a1, a2, a3, a4, a5] st mem := ke_getf rfl dX5_two_74
theorem eX5_two_77 : ev X m_X5_two 77 [a0, a1, a2, a3, a4, a5] st mem = ev X m_X5_two 78 [a0, a1, a2, a3, a4, a5] (vI 2 :: st) mem := ke_iconst (by decide) dX5_two_77
theorem eX5_two_78 : ev X m_X5_two 78 [a0, a1, a2, a3, a4, vI x] st mem = ev X m_X5_two 80 [a0, a1, a2, a3, a4, vI x] (vI x :: st) mem := ke_iload rfl dX5_two_78
theorem eX5_two_80 : ev X m_X5_two 80 [a0, a1, a2, a3, a4, a5] st mem = ev X m_X5_two 81 [a0, a1, a2, a3, a4, a5] (vI 1 :: st) mem := ke_iconst (by decide) dX5_two_80
theorem eX5_two_81 : ev X m_X5_two 81 [a0, a1, a2, a3, a4, a5] (vI y :: vI x :: st) mem = ev X m_X5_two 82 [a0, a1, a2, a3, a4, a5] (vI (xor32 x y) :: st) mem := ke_ixor dX5_two_81
theorem eX5_two_82 : ev X m_X5_two 82 [a0, a1, a2, a3, a4, a5] (vI y :: vI x :: st) mem = ev X m_X5_two 83 [a0, a1, a2, a3, a4, a5] (vI (w32 (x * y)) :: st) mem := ke_imul dX5_two_82
theorem eX5_two_83 : ev X m_X5_two 83 [a0, a1, a2, a3, a4, a5] st mem = ev X m_X5_two 84 [a0, a1, a2, a3, a4, a5] (vI 1 :: st) mem := ke_iconst (by decide) dX5_two_83
theorem eX5_two_84 : ev X m_X5_two 84 [a0, a1, a2, a3, a4, a5] (vI y :: vI x :: st) mem = ev X m_X5_two 85 [a0, a1, a2, a3, a4, a5] (vI (w32 (x + y)) :: st) mem := ke_iadd dX5_two_84
theorem eX5_two_85 : ev X m_X5_two 85 [a0, a1, a2, a3, a4, a5] (vI x :: vR r :: st) mem = evb X (aget mem r x) m_X5_two 86 [a0, a1, a2, a3, a4, a5] st mem := ke_iaload dX5_two_85
theorem eX5_two_86 : ev X m_X5_two 86 [vR r, a1, a2, a3, a4, a5] st mem = ev X m_X5_two 87 [vR r, a1, a2, a3, a4, a5] (vR r :: st) mem := ke_aload_n rfl dX5_two_86
theorem eX5_two_87 : ev X m_X5_two 87 [a0, a1, a2, a3, a4, a5] (vR r :: st) mem = evb X (fget mem r 5 25) m_X5_two 90 [a0, a1, a2, a3, a4, a5] st mem := ke_getf rfl dX5_two_87
theorem eX5_two_90 : ev X m_X5_two 90 [a0, a1, a2, a3, a4, a5] st mem = ev X m_X5_two 91 [a0, a1, a2, a3, a4, a5] (vI 2 :: st) mem := ke_iconst (by decide) dX5_two_90
theorem eX5_two_91 : ev X m_X5_two 91 [a0, a1, a2, a3, a4, vI x] st mem = ev X m_X5_two 93 [a0, a1, a2, a3, a4, vI x] (vI x :: st) mem := ke_iload rfl dX5_two_91
theorem eX5_two_93 : ev X m_X5_two 93 [a0, a1, a2, a3, a4, a5] (vI y :: vI x :: st) mem = ev X m_X5_two 94 [a0, a1, a2, a3, a4, a5] (vI (w32 (x * y)) :: st) mem := ke_imul dX5_two_93
theorem eX5_two_94 : ev X m_X5_two 94 [a0, a1, a2, a3, a4, a5] st mem = ev X m_X5_two 95 [a0, a1, a2, a3, a4, a5] (vI 1 :: st) mem := ke_iconst (by decide) dX5_two_94
theorem eX5_two_95 : ev X m_X5_two 95 [a0, a1, a2, a3, a4, a5] (vI y :: vI x :: st) mem = ev X m_X5_two 96 [a0, a1, a2, a3, a4, a5] (vI (w32 (x + y)) :: st) mem := ke_iadd dX5_two_95
theorem eX5_two_96 : ev X m_X5_two 96 [a0, a1, a2, a3, a4, a5] (vI x :: vR r :: st) mem = evb X (aget mem r x) m_X5_two 97 [a0, a1, a2, a3, a4, a5] st mem := ke_iaload dX5_two_96
theorem eX5_two_97 : ev X m_X5_two 97 [a0, a1, a2, a3, a4, a5] (vI y :: vI x :: st) mem = if y < x then ev X m_X5_two 113 [a0, a1, a2, a3, a4, a5] st mem else ev X m_X5_two 100 [a0, a1, a2, a3, a4, a5] st mem := ke_icmp_gt dX5_two_97 rfl
theorem eX5_two_100 : ev X m_X5_two 100 [a0, a1, a2, a3, a4, a5] st mem = ev X m_X5_two 102 [a0, a1, a2, a3, a4, a5] (vI 10 :: st) mem := ke_bipush (by decide) dX5_two_100
theorem eX5_two_102 : ev X m_X5_two 102 [a0, a1, a2, a3, a4, vI x] st mem = ev X m_X5_two 104 [a0, a1, a2, a3, a4, vI x] (vI x :: st) mem := ke_iload rfl dX5_two_102
theorem eX5_two_104 : ev X m_X5_two 104 [a0, a1, a2, a3, a4, a5] st mem = ev X m_X5_two 105 [a0, a1, a2, a3, a4, a5] (vI 2 :: st) mem := ke_iconst (by decide) dX5_two_104
theorem eX5_two_105 : ev X m_X5_two 105 [a0, a1, a2, a3, a4, a5] (vI y :: vI x :: st) mem = if y = 0 then none else ev X m_X5_two 106 [a0, a1, a2, a3, a4, a5] (vI (w32 (x.tdiv y)) :: st) mem := ke_idiv dX5_two_105
theorem eX5_two_106 : ev X m_X5_two 106 [a0, a1, a2, a3, a4, a5] (vI y :: vI x :: st) mem = ev X m_X5_two 107 [a0, a1, a2, a3, a4, a5] (vI (w32 (x * y)) :: st) mem := ke_imul dX5_two_106
theorem eX5_two_107 : ev X m_X5_two 107 [a0, a1, a2, a3, a4, vI x] st mem = ev X m_X5_two 109 [a0, a1, a2, a3, a4, vI x] (vI x :: st) mem := ke_iload rfl dX5_two_107
theorem eX5_two_109 : ev X m_X5_two 109 [a0, a1, a2, a3, a4, a5] st mem = ev X m_X5_two 110 [a0, a1, a2, a3, a4, a5] (vI 2 :: st) mem := ke_iconst (by decide) dX5_two_109
theorem eX5_two_110 : ev X m_X5_two 110 [a0, a1, a2, a3, a4, a5] (vI y :: vI x :: st) mem = if y = 0 then none else ev X m_X5_two 111 [a0, a1, a2, a3, a4, a5] (vI (w32 (x.tmod y)) :: st) mem := ke_irem dX5_two_110
theorem eX5_two_111 : ev X m_X5_two 111 [a0, a1, a2, a3, a4, a5] (vI y :: vI x :: st) mem = ev X m_X5_two 112 [a0, a1, a2, a3, a4, a5] (vI (w32 (x + y)) :: st) mem := ke_iadd dX5_two_111
theorem eX5_two_112 : ev X m_X5_two 112 [a0, a1, a2, a3, a4, a5] [vI x] mem = some (some (vI x), mem) := ke_ireturn dX5_two_112 rfl
theorem eX5_two_113 : ev X m_X5_two 113 [a0, a1, a2, a3, a4, vI x] st mem = ev X m_X5_two 116 [a0, a1, a2, a3, a4, vI (w32 (x + 1))] st mem := ke_iinc rfl (Nat.le_of_ble_eq_true rfl) rfl dX5_two_113
theorem eX5_two_116 : ev X m_X5_two 116 [a0, a1, a2, a3, a4, a5] st mem = ev X m_X5_two 44 [a0, a1, a2, a3, a4, a5] st mem := ke_goto dX5_two_116 rfl
theorem eX5_two_119 : ev X m_X5_two 119 [a0, a1, a2, a3, a4, a5] st mem = ev X m_X5_two 121 [a0, a1, a2, a3, a4, a5] (vI (-9) :: st) mem := ke_bipush (by decide) dX5_two_119
theorem eX5_two_121 : ev X m_X5_two 121 [a0, a1, a2, a3, a4, a5] [vI x] mem = some (some (vI x), mem) := ke_ireturn dX5_two_121 rfl
theorem eX5_findBrought_0 : ev X m_X5_findBrought 0 [a0, a1, a2, a3, a4] st mem = ev X m_X5_findBrought 1 [a0, a1, a2, a3, a4] (vI 0 :: st) mem := ke_iconst (by decide) dX5_findBrought_0
theorem eX5_findBrought_1 : ev X m_X5_findBrought 1 [a0, a1, a2, a3, a4] (vI x :: st) mem = ev X m_X5_findBrought 3 [a0, a1, a2, a3, vI x] st mem := ke_istore (Nat.le_of_ble_eq_true rfl) rfl dX5_findBrought_1
theorem eX5_findBrought_3 : ev X m_X5_findBrought 3 [a0, a1, a2, a3, vI x] st mem = ev X m_X5_findBrought 5 [a0, a1, a2, a3, vI x] (vI x :: st) mem := ke_iload rfl dX5_findBrought_3
theorem eX5_findBrought_5 : ev X m_X5_findBrought 5 [a0, a1, a2, a3, a4] st mem = ev X m_X5_findBrought 6 [a0, a1, a2, a3, a4] (vI 4 :: st) mem := ke_iconst (by decide) dX5_findBrought_5
theorem eX5_findBrought_6 : ev X m_X5_findBrought 6 [a0, a1, a2, a3, a4] (vI y :: vI x :: st) mem = if x < y then ev X m_X5_findBrought 9 [a0, a1, a2, a3, a4] st mem else ev X m_X5_findBrought 78 [a0, a1, a2, a3, a4] st mem := ke_icmp_ge dX5_findBrought_6 rfl
theorem eX5_findBrought_9 : ev X m_X5_findBrought 9 [vR r, a1, a2, a3, a4] st mem = ev X m_X5_findBrought 10 [vR r, a1, a2, a3, a4] (vR r :: st) mem := ke_aload_n rfl dX5_findBrought_9
theorem eX5_findBrought_10 : ev X m_X5_findBrought 10 [a0, a1, a2, a3, a4] (vR r :: []) mem = evc X (gR mem r 5 (ev X m_X5_thinks 0 [vR r] [] mem)) m_X5_findBrought 13 [a0, a1, a2, a3, a4] [] := ke_callV (m' := m_X5_thinks) (as := []) (n := 0) (rest := []) dX5_findBrought_10 rfl rfl rfl rfl rfl rfl (Nat.le_of_ble_eq_true rfl) (Nat.le_of_ble_eq_true rfl) (Nat.le_of_ble_eq_true rfl) rfl
theorem eX5_findBrought_13 : ev X m_X5_findBrought 13 [vR r, a1, a2, a3, a4] st mem = ev X m_X5_findBrought 14 [vR r, a1, a2, a3, a4] (vR r :: st) mem := ke_aload_n rfl dX5_findBrought_13
theorem eX5_findBrought_14 : ev X m_X5_findBrought 14 [a0, a1, vI x, a3, a4] st mem = ev X m_X5_findBrought 15 [a0, a1, vI x, a3, a4] (vI x :: st) mem := ke_iload_n rfl dX5_findBrought_14
theorem eX5_findBrought_15 : ev X m_X5_findBrought 15 [a0, vI x, a2, a3, a4] st mem = ev X m_X5_findBrought 16 [a0, vI x, a2, a3, a4] (vI x :: st) mem := ke_iload_n rfl dX5_findBrought_15
theorem eX5_findBrought_16 : ev X m_X5_findBrought 16 [a0, a1, a2, a3, vI x] st mem = ev X m_X5_findBrought 18 [a0, a1, a2, a3, vI x] (vI x :: st) mem := ke_iload rfl dX5_findBrought_16
theorem eX5_findBrought_18 : ev X m_X5_findBrought 18 [a0, a1, a2, a3, a4] st mem = ev X m_X5_findBrought 19 [a0, a1, a2, a3, a4] (vI 2 :: st) mem := ke_iconst (by decide) dX5_findBrought_18
theorem eX5_findBrought_19 : ev X m_X5_findBrought 19 [a0, a1, a2, a3, a4] (vI y :: vI x :: st) mem = if y = 0 then none else ev X m_X5_findBrought 20 [a0, a1, a2, a3, a4] (vI (w32 (x.tdiv y)) :: st) mem := ke_idiv dX5_findBrought_19
theorem eX5_findBrought_20 : ev X m_X5_findBrought 20 [a0, a1, a2, a3, a4] (vI n2 :: vI n1 :: vI n0 :: vR r :: []) mem = evc X (gR mem r 5 (ev X m_X5_slighted 0 [vR r, vI n0, vI n1, vI n2] [] mem)) m_X5_findBrought 23 [a0, a1, a2, a3, a4] [] := ke_callV (m' := m_X5_slighted) (as := [vI n0, vI n1, vI n2]) (n := 3) (rest := []) dX5_findBrought_20 rfl rfl rfl rfl rfl rfl (Nat.le_of_ble_eq_true rfl) (Nat.le_of_ble_eq_true rfl) (Nat.le_of_ble_eq_true rfl) rfl
theorem eX5_findBrought_23 : ev X m_X5_findBrought 23 [vR r, a1, a2, a3, a4] st mem = ev X m_X5_findBrought 24 [vR r, a1, a2, a3, a4] (vR r :: st) mem := ke_aload_n rfl dX5_findBrought_23
theorem eX5_findBrought_24 : ev X m_X5_findBrought 24 [a0, vI x, a2, a3, a4] st mem = ev X m_X5_findBrought 25 [a0, vI x, a2, a3, a4] (vI x :: st) mem := ke_iload_n rfl dX5_findBrought_24
theorem eX5_findBrought_25 : ev X m_X5_findBrought 25 [a0, a1, vI x, a3, a4] st mem = ev X m_X5_findBrought 26 [a0, a1, vI x, a3, a4] (vI x :: st) mem := ke_iload_n rfl dX5_findBrought_25
theorem eX5_findBrought_26 : ev X m_X5_findBrought 26 [a0, a1, a2, a3, vI x] st mem = ev X m_X5_findBrought 28 [a0, a1, a2, a3, vI x] (vI x :: st) mem := ke_iload rfl dX5_findBrought_26
theorem eX5_findBrought_28 : ev X m_X5_findBrought 28 [a0, a1, a2, a3, a4] st mem = ev X m_X5_findBrought 29 [a0, a1, a2, a3, a4] (vI 2 :: st) mem := ke_iconst (by decide) dX5_findBrought_28
theorem eX5_findBrought_29 : ev X m_X5_findBrought 29 [a0, a1, a2, a3, a4] (vI y :: vI x :: st) mem = if y = 0 then none else ev X m_X5_findBrought 30 [a0, a1, a2, a3, a4] (vI (w32 (x.tmod y)) :: st) mem := ke_irem dX5_findBrought_29
theorem eX5_findBrought_30 : ev X m_X5_findBrought 30 [a0, a1, a2, a3, a4] (vI n2 :: vI n1 :: vI n0 :: vR r :: []) mem = evc X (gR mem r 5 (ev X m_X5_slighted 0 [vR r, vI n0, vI n1, vI n2] [] mem)) m_X5_findBrought 33 [a0, a1, a2, a3, a4] [] := ke_callV (m' := m_X5_slighted) (as := [vI n0, vI n1, vI n2]) (n := 3) (rest := []) dX5_findBrought_30 rfl rfl rfl rfl rfl rfl (Nat.le_of_ble_eq_true rfl) (Nat.le_of_ble_eq_true rfl) (Nat.le_of_ble_eq_true rfl) rfl
theorem eX5_findBrought_33 : ev X m_X5_findBrought 33 [vR r, a1, a2, a3, a4] st mem = ev X m_X5_findBrought 34 [vR r, a1, a2, a3, a4] (vR r :: st) mem := ke_aload_n rfl dX5_findBrought_33
theorem eX5_findBrought_34 : ev X m_X5_findBrought 34 [a0, a1, a2, vI x, a4] st mem = ev X m_X5_findBrought 35 [a0, a1, a2, vI x, a4] (vI x :: st) mem := ke_iload_n rfl dX5_findBrought_34
theorem eX5_findBrought_35 : ev X m_X5_findBrought 35 [a0, a1, a2, a3, a4] (vI n0 :: vR r :: []) mem = evc X (gR mem r 5 (ev X m_X5_goes 0 [vR r, vI n0, vS] [] mem)) m_X5_findBrought 38 [a0, a1, a2, a3, a4] [] := ke_callV (m' := m_X5_goes) (as := [vI n0]) (n := 1) (rest := []) dX5_findBrought_35 rfl rfl rfl rfl rfl rfl (Nat.le_of_ble_eq_true rfl) (Nat.le_of_ble_eq_true rfl) (Nat.le_of_ble_eq_true rfl) rfl
theorem eX5_findBrought_38 : ev X m_X5_findBrought 38 [vR r, a1, a2, a3, a4] st mem = ev X m_X5_findBrought 39 [vR r, a1, a2, a3, a4] (vR r :: st) mem := ke_aload_n rfl dX5_findBrought_38
theorem eX5_findBrought_39 : ev X m_X5_findBrought 39 [a0, a1, a2, a3, a4] (vR r :: st) mem = evb X (fget mem r 5 25) m_X5_findBrought 42 [a0, a1, a2, a3, a4] st mem := ke_getf rfl dX5_findBrought_39
theorem eX5_findBrought_42 : ev X m_X5_findBrought 42 [a0, a1, a2, a3, a4] st mem = ev X m_X5_findBrought 43 [a0, a1, a2, a3, a4] (vI 2 :: st) mem := ke_iconst (by decide) dX5_findBrought_42
theorem eX5_findBrought_43 : ev X m_X5_findBrought 43 [a0, a1, a2, a3, vI x] st mem = ev X m_X5_findBrought 45 [a0, a1, a2, a3, vI x] (vI x :: st) mem := ke_iload rfl dX5_findBrought_43
theorem eX5_findBrought_45 : ev X m_X5_findBrought 45 [a0, a1, a2, a3, a4] (vI y :: vI x :: st) mem = ev X m_X5_findBrought 46 [a0, a1, a2, a3, a4] (vI (w32 (x * y)) :: st) mem := ke_imul dX5_findBrought_45
theorem eX5_findBrought_46 : ev X m_X5_findBrought 46 [vR r, a1, a2, a3, a4] st mem = ev X m_X5_findBrought 47 [vR r, a1, a2, a3, a4] (vR r :: st) mem := ke_aload_n rfl dX5_findBrought_46
theorem eX5_findBrought_47 : ev X m_X5_findBrought 47 [a0, vI x, a2, a3, a4] st mem = ev X m_X5_findBrought 48 [a0, vI x, a2, a3, a4] (vI x :: st) mem := ke_iload_n rfl dX5_findBrought_47
theorem eX5_findBrought_48 : ev X m_X5_findBrought 48 [a0, a1, a2, a3, a4] (vI n0 :: vR r :: [s0, s1]) mem = evc X (gR mem r 5 (ev X m_X5_broughtTo 0 [vR r, vI n0, vS, vS] [] mem)) m_X5_findBrought 51 [a0, a1, a2, a3, a4] [s0, s1] := ke_callV (m' := m_X5_broughtTo) (as := [vI n0]) (n := 1) (rest := [s0, s1]) dX5_findBrought_48 rfl rfl rfl rfl rfl rfl (Nat.le_of_ble_eq_true rfl) (Nat.le_of_ble_eq_true rfl) (Nat.le_of_ble_eq_true rfl) rfl
theorem eX5_findBrought_51 : ev X m_X5_findBrought 51 [a0, a1, a2, a3, a4] (vI y :: vI x :: vR r :: st) mem = evm X (aput mem r x y) m_X5_findBrought 52 [a0, a1, a2, a3, a4] st := ke_iastore dX5_findBrought_51
theorem eX5_findBrought_52 : ev X m_X5_findBrought 52 [vR r, a1, a2, a3, a4] st mem = ev X m_X5_findBrought 53 [vR r, a1, a2, a3, a4] (vR r :: st) mem := ke_aload_n rfl dX5_findBrought_52
theorem eX5_findBrought_53 : ev X m_X5_findBrought 53 [a0, a1, a2, a3, a4] (vR r :: st) mem = evb X (fget mem r 5 25) m_X5_findBrought 56 [a0, a1, a2, a3, a4] st mem := ke_getf rfl dX5_findBrought_53
theorem eX5_findBrought_56 : ev X m_X5_findBrought 56 [a0, a1, a2, a3, a4] st mem = ev X m_X5_findBrought 57 [a0, a1, a2, a3, a4] (vI 2 :: st) mem := ke_iconst (by decide) dX5_findBrought_56
theorem eX5_findBrought_57 : ev X m_X5_findBrought 57 [a0, a1, a2, a3, vI x] st mem = ev X m_X5_findBrought 59 [a0, a1, a2, a3, vI x] (vI x :: st) mem := ke_iload rfl dX5_findBrought_57
theorem eX5_findBrought_59 : ev X m_X5_findBrought 59 [a0, a1, a2, a3, a4] (vI y :: vI x :: st) mem = ev X m_X5_findBrought 60 [a0, a1, a2, a3, a4] (vI (w32 (x * y)) :: st) mem := ke_imul dX5_findBrought_59
theorem eX5_findBrought_60 : ev X m_X5_findBrought 60 [a0, a1, a2, a3, a4] st mem = ev X m_X5_findBrought 61 [a0, a1, a2, a3, a4] (vI 1 :: st) mem := ke_iconst (by decide) dX5_findBrought_60
theorem eX5_findBrought_61 : ev X m_X5_findBrought 61 [a0, a1, a2, a3, a4] (vI y :: vI x :: st) mem = ev X m_X5_findBrought 62 [a0, a1, a2, a3, a4] (vI (w32 (x + y)) :: st) mem := ke_iadd dX5_findBrought_61
theorem eX5_findBrought_62 : ev X m_X5_findBrought 62 [vR r, a1, a2, a3, a4] st mem = ev X m_X5_findBrought 63 [vR r, a1, a2, a3, a4] (vR r :: st) mem := ke_aload_n rfl dX5_findBrought_62
theorem eX5_findBrought_63 : ev X m_X5_findBrought 63 [a0, a1, vI x, a3, a4] st mem = ev X m_X5_findBrought 64 [a0, a1, vI x, a3, a4] (vI x :: st) mem := ke_iload_n rfl dX5_findBrought_63
theorem eX5_findBrought_64 : ev X m_X5_findBrought 64 [a0, a1, a2, a3, a4] (vI n0 :: vR r :: [s0, s1]) mem = evc X (gR mem r 5 (ev X m_X5_broughtTo 0 [vR r, vI n0, vS, vS] [] mem)) m_X5_findBrought 67 [a0, a1, a2, a3, a4] [s0, s1] := ke_callV (m' := m_X5_broughtTo) (as := [vI n0]) (n := 1) (rest := [s0, s1]) dX5_findBrought_64 rfl rfl rfl rfl rfl rfl (Nat.le_of_ble_eq_true rfl) (Nat.le_of_ble_eq_true rfl) (Nat.le_of_ble_eq_true rfl) rfl
theorem eX5_findBrought_67 : ev X m_X5_findBrought 67 [a0, a1, a2, a3, a4] (vI y :: vI x :: vR r :: st) mem = evm X (aput mem r x y) m_X5_findBrought 68 [a0, a1, a2, a3, a4] st := ke_iastore dX5_findBrought_67
theorem eX5_findBrought_68 : ev X m_X5_findBrought 68 [vR r, a1, a2, a3, a4] st mem = ev X m_X5_findBrought 69 [vR r, a1, a2, a3, a4] (vR r :: st) mem := ke_aload_n rfl dX5_findBrought_68
theorem eX5_findBrought_69 : ev X m_X5_findBrought 69 [a0, a1, a2, a3, a4] (vR r :: []) mem = evc X (gR mem r 5 (ev X m_X5_forgets 0 [vR r] [] mem)) m_X5_findBrought 72 [a0, a1, a2, a3, a4] [] := ke_callV (m' := m_X5_forgets) (as := []) (n := 0) (rest := []) dX5_findBrought_69 rfl rfl rfl rfl rfl rfl (Nat.le_of_ble_eq_true rfl) (Nat.le_of_ble_eq_true rfl) (Nat.le_of_ble_eq_true rfl) rfl
theorem eX5_findBrought_72 : ev X m_X5_findBrought 72 [a0, a1, a2, a3, vI x] st mem = ev X m_X5_findBrought 75 [a0, a1, a2, a3, vI (w32 (x + 1))] st mem := ke_iinc rfl (Nat.le_of_ble_eq_true rfl) rfl dX5_findBrought_72
theorem eX5_findBrought_75 : ev X m_X5_findBrought 75 [a0, a1, a2, a3, a4] st mem = ev X m_X5_findBrought 3 [a0, a1, a2, a3, a4] st mem := ke_goto dX5_findBrought_75 rfl
theorem eX5_findBrought_78 : ev X m_X5_findBrought 78 [a0, a1, a2, a3, a4] [] mem = some (none, mem) := ke_return dX5_findBrought_78 rfl
theorem eX5_broughtTo_0 : ev X m_X5_broughtTo 0 [a0, a1, a2, a3] st mem = ev X m_X5_broughtTo 1 [a0, a1, a2, a3] (vI 0 :: st) mem := ke_iconst (by decide) dX5_broughtTo_0
theorem eX5_broughtTo_1 : ev X m_X5_broughtTo 1 [a0, a1, a2, a3] (vI x :: st) mem = ev X m_X5_broughtTo 2 [a0, a1, vI x, a3] st mem := ke_istore_n (Nat.le_of_ble_eq_true rfl) rfl dX5_broughtTo_1
theorem eX5_broughtTo_2 : ev X m_X5_broughtTo 2 [a0, a1, a2, a3] st mem = ev X m_X5_broughtTo 3 [a0, a1, a2, a3] (vI 0 :: st) mem := ke_iconst (by decide) dX5_broughtTo_2
theorem eX5_broughtTo_3 : ev X m_X5_broughtTo 3 [a0, a1, a2, a3] (vI x :: st) mem = ev X m_X5_broughtTo 4 [a0, a1, a2, vI x] st mem := ke_istore_n (Nat.le_of_ble_eq_true rfl) rfl dX5_broughtTo_3
theorem eX5_broughtTo_4 : ev X m_X5_broughtTo 4 [a0, a1, a2, vI x] st mem = ev X m_X5_broughtTo 5 [a0, a1, a2, vI x] (vI x :: st) mem := ke_iload_n rfl dX5_broughtTo_4
theorem eX5_broughtTo_5 : ev X m_X5_broughtTo 5 [vR r, a1, a2, a3] st mem = ev X m_X5_broughtTo 6 [vR r, a1, a2, a3] (vR r :: st) mem := ke_aload_n rfl dX5_broughtTo_5
theorem eX5_broughtTo_6 : ev X m_X5_broughtTo 6 [a0, a1, a2, a3] (vR r :: st) mem = evb X (fget mem r 5 12) m_X5_broughtTo 9 [a0, a1, a2, a3] st mem := ke_getf rfl dX5_broughtTo_6
theorem eX5_broughtTo_9 : ev X m_X5_broughtTo 9 [a0, a1, a2, a3] (vI y :: vI x :: st) mem = if x < y then ev X m_X5_broughtTo 12 [a0, a1, a2, a3] st mem else ev X m_X5_broughtTo 46 [a0, a1, a2, a3] st mem := ke_icmp_ge dX5_broughtTo_9 rfl
theorem eX5_broughtTo_12 : ev X m_X5_broughtTo 12 [a0, a1, vI x, a3] st mem = ev X m_X5_broughtTo 13 [a0, a1, vI x, a3] (vI x :: st) mem := ke_iload_n rfl dX5_broughtTo_12
theorem eX5_broughtTo_13 : ev X m_X5_broughtTo 13 [vR r, a1, a2, a3] st mem = ev X m_X5_broughtTo 14 [vR r, a1, a2, a3] (vR r :: st) mem := ke_aload_n rfl dX5_broughtTo_13
theorem eX5_broughtTo_14 : ev X m_X5_broughtTo 14 [a0, a1, a2, a3] (vR r :: st) mem = evb X (fget mem r 5 8) m_X5_broughtTo 17 [a0, a1, a2, a3] st mem := ke_getf rfl dX5_broughtTo_14
theorem eX5_broughtTo_17 : ev X m_X5_broughtTo 17 [a0, a1, a2, vI x] st mem = ev X m_X5_broughtTo 18 [a0, a1, a2, vI x] (vI x :: st) mem := ke_iload_n rfl dX5_broughtTo_17
theorem eX5_broughtTo_18 : ev X m_X5_broughtTo 18 [a0, a1, a2, a3] (vI x :: vR r :: st) mem = evb X (aget mem r x) m_X5_broughtTo 19 [a0, a1, a2, a3] st mem := ke_iaload dX5_broughtTo_18
theorem eX5_broughtTo_19 : ev X m_X5_broughtTo 19 [a0, a1, a2, a3] st mem = ev X m_X5_broughtTo 20 [a0, a1, a2, a3] (vI 2 :: st) mem := ke_iconst (by decide) dX5_broughtTo_19
theorem eX5_broughtTo_20 : ev X m_X5_broughtTo 20 [a0, a1, a2, a3] (vI y :: vI x :: st) mem = if x = y then ev X m_X5_broughtTo 23 [a0, a1, a2, a3] st mem else ev X m_X5_broughtTo 37 [a0, a1, a2, a3] st mem := ke_icmp_ne dX5_broughtTo_20 rfl
theorem eX5_broughtTo_23 : ev X m_X5_broughtTo 23 [vR r, a1, a2, a3] st mem = ev X m_X5_broughtTo 24 [vR r, a1, a2, a3] (vR r :: st) mem := ke_aload_n rfl dX5_broughtTo_23
theorem eX5_broughtTo_24 : ev X m_X5_broughtTo 24 [a0, a1, a2, a3] (vR r :: st) mem = evb X (fget mem r 5 6) m_X5_broughtTo 27 [a0, a1, a2, a3] st mem := ke_getf rfl dX5_broughtTo_24
theorem eX5_broughtTo_27 : ev X m_X5_broughtTo 27 [a0, a1, a2, vI x] st mem = ev X m_X5_broughtTo 28 [a0, a1, a2, vI x] (vI x :: st) mem := ke_iload_n rfl dX5_broughtTo_27
theorem eX5_broughtTo_28 : ev X m_X5_broughtTo 28 [a0, a1, a2, a3] (vI x :: vR r :: st) mem = evb X (aget mem r x) m_X5_broughtTo 29 [a0, a1, a2, a3] st mem := ke_iaload dX5_broughtTo_28
theorem eX5_broughtTo_29 : ev X m_X5_broughtTo 29 [a0, vI x, a2, a3] st mem = ev X m_X5_broughtTo 30 [a0, vI x, a2, a3] (vI x :: st) mem := ke_iload_n rfl dX5_broughtTo_29
theorem eX5_broughtTo_30 : ev X m_X5_broughtTo 30 [a0, a1, a2, a3] (vI y :: vI x :: st) mem = if x = y then ev X m_X5_broughtTo 33 [a0, a1, a2, a3] st mem else ev X m_X5_broughtTo 37 [a0, a1, a2, a3] st mem := ke_icmp_ne dX5_broughtTo_30 rfl
theorem eX5_broughtTo_33 : ev X m_X5_broughtTo 33 [a0, a1, a2, a3] st mem = ev X m_X5_broughtTo 34 [a0, a1, a2, a3] (vI 1 :: st) mem := ke_iconst (by decide) dX5_broughtTo_33
theorem eX5_broughtTo_34 : ev X m_X5_broughtTo 34 [a0, a1, a2, a3] st mem = ev X m_X5_broughtTo 38 [a0, a1, a2, a3] st mem := ke_goto dX5_broughtTo_34 rfl
theorem eX5_broughtTo_37 : ev X m_X5_broughtTo 37 [a0, a1, a2, a3] st mem = ev X m_X5_broughtTo 38 [a0, a1, a2, a3] (vI 0 :: st) mem := ke_iconst (by decide) dX5_broughtTo_37
theorem eX5_broughtTo_38 : ev X m_X5_broughtTo 38 [a0, a1, a2, a3] (vI y :: vI x :: st) mem = ev X m_X5_broughtTo 39 [a0, a1, a2, a3] (vI (w32 (x + y)) :: st) mem := ke_iadd dX5_broughtTo_38
theorem eX5_broughtTo_39 : ev X m_X5_broughtTo 39 [a0, a1, a2, a3] (vI x :: st) mem = ev X m_X5_broughtTo 40 [a0, a1, vI x, a3] st mem := ke_istore_n (Nat.le_of_ble_eq_true rfl) rfl dX5_broughtTo_39
theorem eX5_broughtTo_40 : ev X m_X5_broughtTo 40 [a0, a1, a2, vI x] st mem = ev X m_X5_broughtTo 43 [a0, a1, a2, vI (w32 (x + 1))] st mem := ke_iinc rfl (Nat.le_of_ble_eq_true rfl) rfl dX5_broughtTo_40
theorem eX5_broughtTo_43 : ev X m_X5_broughtTo 43 [a0, a1, a2, a3] st mem = ev X m_X5_broughtTo 4 [a0, a1, a2, a3] st mem := ke_goto dX5_broughtTo_43 rfl
theorem eX5_broughtTo_46 : ev X m_X5_broughtTo 46 [a0, a1, vI x, a3] st mem = ev X m_X5_broughtTo 47 [a0, a1, vI x, a3] (vI x :: st) mem := ke_iload_n rfl dX5_broughtTo_46
theorem eX5_broughtTo_47 : ev X m_X5_broughtTo 47 [a0, a1, a2, a3] [vI x] mem = some (some (vI x), mem) := ke_ireturn dX5_broughtTo_47 rfl
theorem eX5_snow_0 : ev X m_X5_snow 0 [vR r, a1, a2, a3, a4, a5, a6, a7, a8, a9, a10, a11, a12, a13] st mem = ev X m_X5_snow 1 [vR r, a1, a2, a3, a4, a5, a6, a7, a8, a9, a10, a11, a12, a13] (vR r :: st) mem := ke_aload_n rfl dX5_snow_0
theorem eX5_snow_1 : ev X m_X5_snow 1 [a0, vI x, a2, a3, a4, a5, a6, a7, a8, a9, a10, a11, a12, a13] st mem = ev X m_X5_snow 2 [a0, vI x, a2, a3, a4, a5, a6, a7, a8, a9, a10, a11, a12, a13] (vI x :: st) mem := ke_iload_n rfl dX5_snow_1
theorem eX5_snow_2 : ev X m_X5_snow 2 [a0, a1, a2, a3, a4, a5, a6, a7, a8, a9, a10, a11, a12, a13] (vI n0 :: vR r :: []) mem = evc X (gR mem r 5 (ev X m_X5_isParcel 0 [vR r, vI n0] [] mem)) m_X5_snow 5 [a0, a1, a2, a3, a4, a5, a6, a7, a8, a9, a10, a11, a12, a13] [] := ke_callV (m' := m_X5_isParcel) (as := [vI n0]) (n := 1) (rest := []) dX5_snow_2 rfl rfl rfl rfl rfl rfl (Nat.le_of_ble_eq_true rfl) (Nat.le_of_ble_eq_true rfl) (Nat.le_of_ble_eq_true rfl) rfl
theorem eX5_snow_5 : ev X m_X5_snow 5 [a0, a1, a2, a3, a4, a5, a6, a7, a8, a9, a10, a11, a12, a13] (vI x :: st) mem = if x = 0 then ev X m_X5_snow 8 [a0, a1, a2, a3, a4, a5, a6, a7, a8, a9, a10, a11, a12, a13] st mem else ev X m_X5_snow 12 [a0, a1, a2, a3, a4, a5, a6, a7, a8, a9, a10, a11, a12, a13] st mem := ke_if_ne dX5_snow_5 rfl
theorem eX5_snow_8 : ev X m_X5_snow 8 [a0, a1, a2, a3, a4, a5, a6, a7, a8, a9, a10, a11, a12, a13] st mem = ev X m_X5_snow 9 [a0, a1, a2, a3, a4, a5, a6, a7, a8, a9, a10, a11, a12, a13] (vI (-1) :: st) mem := ke_iconst (by decide) dX5_snow_8
theorem eX5_snow_9 : ev X m_X5_snow 9 [a0, a1, a2, a3, a4, a5, a6, a7, a8, a9, a10, a11, a12, a13] st mem = ev X m_X5_snow 59 [a0, a1, a2, a3, a4, a5, a6, a7, a8, a9, a10, a11, a12, a13] st mem := ke_goto dX5_snow_9 rfl
theorem eX5_snow_12 : ev X m_X5_snow 12 [a0, a1, vI x, a3, a4, a5, a6, a7, a8, a9, a10, a11, a12, a13] st mem = ev X m_X5_snow 13 [a0, a1, vI x, a3, a4, a5, a6, a7, a8, a9, a10, a11, a12, a13] (vI x :: st) mem := ke_iload_n rfl dX5_snow_12
theorem eX5_snow_13 : ev X m_X5_snow 13 [a0, a1, a2, a3, a4, a5, a6, a7, a8, a9, a10, a11, a12, a13] (vI x :: st) mem = if x < 0 then ev X m_X5_snow 21 [a0, a1, a2, a3, a4, a5, a6, a7, a8, a9, a10, a11, a12, a13] st mem else ev X m_X5_snow 16 [a0, a1, a2, a3, a4, a5, a6, a7, a8, a9, a10, a11, a12, a13] st mem := ke_if_lt dX5_snow_13 rfl
theorem eX5_snow_16 : ev X m_X5_snow 16 [a0, a1, a2, vI x, a4, a5, a6, a7, a8, a9, a10, a11, a12, a13] st mem = ev X m_X5_snow 17 [a0, a1, a2, vI x, a4, a5, a6, a7, a8, a9, a10, a11, a12, a13] (vI x :: st) mem := ke_iload_n rfl dX5_snow_16
theorem eX5_snow_17 : ev X m_X5_snow 17 [a0, a1, a2, a3, a4, a5, a6, a7, a8, a9, a10, a11, a12, a13] st mem = ev X m_X5_snow 18 [a0, a1, a2, a3, a4, a5, a6, a7, a8, a9, a10, a11, a12, a13] (vI 2 :: st) mem := ke_iconst (by decide) dX5_snow_17
theorem eX5_snow_18 : ev X m_X5_snow 18 [a0, a1, a2, a3, a4, a5, a6, a7, a8, a9, a10, a11, a12, a13] (vI y :: vI x :: st) mem = if x < y then ev X m_X5_snow 21 [a0, a1, a2, a3, a4, a5, a6, a7, a8, a9, a10, a11, a12, a13] st mem else ev X m_X5_snow 26 [a0, a1, a2, a3, a4, a5, a6, a7, a8, a9, a10, a11, a12, a13] st mem := ke_icmp_ge dX5_snow_18 rfl
theorem eX5_snow_21 : ev X m_X5_snow 21 [a0, a1, a2, a3, a4, a5, a6, a7, a8, a9, a10, a11, a12, a13] st mem = ev X m_X5_snow 23 [a0, a1, a2, a3, a4, a5, a6, a7, a8, a9, a10, a11, a12, a13] (vI (-4) :: st) mem := ke_bipush (by decide) dX5_snow_21
theorem eX5_snow_23 : ev X m_X5_snow 23 [a0, a1, a2, a3, a4, a5, a6, a7, a8, a9, a10, a11, a12, a13] st mem = ev X m_X5_snow 59 [a0, a1, a2, a3, a4, a5, a6, a7, a8, a9, a10, a11, a12, a13] st mem := ke_goto dX5_snow_23 rfl
theorem eX5_snow_26 : ev X m_X5_snow 26 [a0, a1, vI x, a3, a4, a5, a6, a7, a8, a9, a10, a11, a12, a13] st mem = ev X m_X5_snow 27 [a0, a1, vI x, a3, a4, a5, a6, a7, a8, a9, a10, a11, a12, a13] (vI x :: st) mem := ke_iload_n rfl dX5_snow_26
theorem eX5_snow_27 : ev X m_X5_snow 27 [a0, a1, a2, a3, a4, a5, a6, a7, a8, a9, a10, a11, a12, a13] st mem = ev X m_X5_snow 29 [a0, a1, a2, a3, a4, a5, a6, a7, a8, a9, a10, a11, a12, a13] (vI 7 :: st) mem := ke_bipush (by decide) dX5_snow_27
theorem eX5_snow_29 : ev X m_X5_snow 29 [a0, a1, a2, a3, a4, a5, a6, a7, a8, a9, a10, a11, a12, a13] (vI y :: vI x :: st) mem = if y < x then ev X m_X5_snow 38 [a0, a1, a2, a3, a4, a5, a6, a7, a8, a9, a10, a11, a12, a13] st mem else ev X m_X5_snow 32 [a0, a1, a2, a3, a4, a5, a6, a7, a8, a9, a10, a11, a12, a13] st mem := ke_icmp_gt dX5_snow_29 rfl
theorem eX5_snow_32 : ev X m_X5_snow 32 [a0, a1, a2, vI x, a4, a5, a6, a7, a8, a9, a10, a11, a12, a13] st mem = ev X m_X5_snow 33 [a0, a1, a2, vI x, a4, a5, a6, a7, a8, a9, a10, a11, a12, a13] (vI x :: st) mem := ke_iload_n rfl dX5_snow_32
theorem eX5_snow_33 : ev X m_X5_snow 33 [a0, a1, a2, a3, a4, a5, a6, a7, a8, a9, a10, a11, a12, a13] st mem = ev X m_X5_snow 35 [a0, a1, a2, a3, a4, a5, a6, a7, a8, a9, a10, a11, a12, a13] (vI 20 :: st) mem := ke_bipush (by decide) dX5_snow_33
theorem eX5_snow_35 : ev X m_X5_snow 35 [a0, a1, a2, a3, a4, a5, a6, a7, a8, a9, a10, a11, a12, a13] (vI y :: vI x :: st) mem = if y < x then ev X m_X5_snow 38 [a0, a1, a2, a3, a4, a5, a6, a7, a8, a9, a10, a11, a12, a13] st mem else ev X m_X5_snow 43 [a0, a1, a2, a3, a4, a5, a6, a7, a8, a9, a10, a11, a12, a13] st mem := ke_icmp_le dX5_snow_35 rfl
theorem eX5_snow_38 : ev X m_X5_snow 38 [a0, a1, a2, a3, a4, a5, a6, a7, a8, a9, a10, a11, a12, a13] st mem = ev X m_X5_snow 40 [a0, a1, a2, a3, a4, a5, a6, a7, a8, a9, a10, a11, a12, a13] (vI (-6) :: st) mem := ke_bipush (by decide) dX5_snow_38
theorem eX5_snow_40 : ev X m_X5_snow 40 [a0, a1, a2, a3, a4, a5, a6, a7, a8, a9, a10, a11, a12, a13] st mem = ev X m_X5_snow 59 [a0, a1, a2, a3, a4, a5, a6, a7, a8, a9, a10, a11, a12, a13] st mem := ke_goto dX5_snow_40 rfl
theorem eX5_snow_43 : ev X m_X5_snow 43 [a0, a1, a2, a3, vI x, a5, a6, a7, a8, a9, a10, a11, a12, a13] st mem = ev X m_X5_snow 45 [a0, a1, a2, a3, vI x, a5, a6, a7, a8, a9, a10, a11, a12, a13] (vI x :: st) mem := ke_iload rfl dX5_snow_43
theorem eX5_snow_45 : ev X m_X5_snow 45 [a0, a1, a2, a3, a4, a5, a6, a7, a8, a9, a10, a11, a12, a13] st mem = ev X m_X5_snow 46 [a0, a1, a2, a3, a4, a5, a6, a7, a8, a9, a10, a11, a12, a13] (vI 0 :: st) mem := ke_iconst (by decide) dX5_snow_45
theorem eX5_snow_46 : ev X m_X5_snow 46 [a0, a1, a2, a3, a4, a5, a6, a7, a8, a9, a10, a11, a12, a13] st mem = ev X m_X5_snow 47 [a0, a1, a2, a3, a4, a5, a6, a7, a8, a9, a10, a11, a12, a13] (vI 1 :: st) mem := ke_iconst (by decide) dX5_snow_46
theorem eX5_snow_47 : ev X m_X5_snow 47 [a0, a1, a2, a3, a4, a5, a6, a7, a8, a9, a10, a11, a12, a13] (vI n2 :: vI n1 :: vI n0 :: []) mem = evc X (ev X m_X5_isIn 0 [vI n0, vI n1, vI n2] [] mem) m_X5_snow 50 [a0, a1, a2, a3, a4, a5, a6, a7, a8, a9, a10, a11, a12, a13] [] := ke_callS (m' := m_X5_isIn) (as := [vI n0, vI n1, vI n2]) (n := 3) (rest := []) dX5_snow_47 rfl (by decide) rfl rfl rfl rfl rfl (Nat.le_of_ble_eq_true rfl) (Nat.le_of_ble_eq_true rfl) rfl
theorem eX5_snow_50 : ev X m_X5_snow 50 [a0, a1, a2, a3, a4, a5, a6, a7, a8, a9, a10, a11, a12, a13] (vI x :: st) mem = if x = 0 then ev X m_X5_snow 53 [a0, a1, a2, a3, a4, a5, a6, a7, a8, a9, a10, a11, a12, a13] st mem else ev X m_X5_snow 58 [a0, a1, a2, a3, a4, a5, a6, a7, a8, a9, a10, a11, a12, a13] st mem := ke_if_ne dX5_snow_50 rfl
theorem eX5_snow_53 : ev X m_X5_snow 53 [a0, a1, a2, a3, a4, a5, a6, a7, a8, a9, a10, a11, a12, a13] st mem = ev X m_X5_snow 55 [a0, a1, a2, a3, a4, a5, a6, a7, a8, a9, a10, a11, a12, a13] (vI (-2) :: st) mem := ke_bipush (by decide) dX5_snow_53
theorem eX5_snow_55 : ev X m_X5_snow 55 [a0, a1, a2, a3, a4, a5, a6, a7, a8, a9, a10, a11, a12, a13] st mem = ev X m_X5_snow 59 [a0, a1, a2, a3, a4, a5, a6, a7, a8, a9, a10, a11, a12, a13] st mem := ke_goto dX5_snow_55 rfl
theorem eX5_snow_58 : ev X m_X5_snow 58 [a0, a1, a2, a3, a4, a5, a6, a7, a8, a9, a10, a11, a12, a13] st mem = ev X m_X5_snow 59 [a0, a1, a2, a3, a4, a5, a6, a7, a8, a9, a10, a11, a12, a13] (vI 0 :: st) mem := ke_iconst (by decide) dX5_snow_58
theorem eX5_snow_59 : ev X m_X5_snow 59 [a0, a1, a2, a3, a4, a5, a6, a7, a8, a9, a10, a11, a12, a13] (vI x :: st) mem = ev X m_X5_snow 61 [a0, a1, a2, a3, a4, vI x, a6, a7, a8, a9, a10, a11, a12, a13] st mem := ke_istore (Nat.le_of_ble_eq_true rfl) rfl dX5_snow_59
theorem eX5_snow_61 : ev X m_X5_snow 61 [a0, a1, a2, a3, a4, vI x, a6, a7, a8, a9, a10, a11, a12, a13] st mem = ev X m_X5_snow 63 [a0, a1, a2, a3, a4, vI x, a6, a7, a8, a9, a10, a11, a12, a13] (vI x :: st) mem := ke_iload rfl dX5_snow_61
theorem eX5_snow_63 : ev X m_X5_snow 63 [a0, a1, a2, a3, a4, a5, a6, a7, a8, a9, a10, a11, a12, a13] (vI x :: st) mem = if x = 0 then ev X m_X5_snow 73 [a0, a1, a2, a3, a4, a5, a6, a7, a8, a9, a10, a11, a12, a13] st mem else ev X m_X5_snow 66 [a0, a1, a2, a3, a4, a5, a6, a7, a8, a9, a10, a11, a12, a13] st mem := ke_if_eq dX5_snow_63 rfl
theorem eX5_snow_66 : ev X m_X5_snow 66 [vR r, a1, a2, a3, a4, a5, a6, a7, a8, a9, a10, a11, a12, a13] st mem = ev X m_X5_snow 67 [vR r, a1, a2, a3, a4, a5, a6, a7, a8, a9, a10, a11, a12, a13] (vR r :: st) mem := ke_aload_n rfl dX5_snow_66
theorem eX5_snow_67 : ev X m_X5_snow 67 [a0, a1, a2, a3, a4, vI x, a6, a7, a8, a9, a10, a11, a12, a13] st mem = ev X m_X5_snow 69 [a0, a1, a2, a3, a4, vI x, a6, a7, a8, a9, a10, a11, a12, a13] (vI x :: st) mem := ke_iload rfl dX5_snow_67
theorem eX5_snow_69 : ev X m_X5_snow 69 [a0, a1, a2, a3, a4, a5, a6, a7, a8, a9, a10, a11, a12, a13] (vI n0 :: vR r :: []) mem = evc X (gR mem r 5 (ev X m_X5_lowestOf 0 [vR r, vI n0] [] mem)) m_X5_snow 72 [a0, a1, a2, a3, a4, a5, a6, a7, a8, a9, a10, a11, a12, a13] [] := ke_callV (m' := m_X5_lowestOf) (as := [vI n0]) (n := 1) (rest := []) dX5_snow_69 rfl rfl rfl rfl rfl rfl (Nat.le_of_ble_eq_true rfl) (Nat.le_of_ble_eq_true rfl) (Nat.le_of_ble_eq_true rfl) rfl
theorem eX5_snow_72 : ev X m_X5_snow 72 [a0, a1, a2, a3, a4, a5, a6, a7, a8, a9, a10, a11, a12, a13] [vL x] mem = some (some (vL x), mem) := ke_lreturn dX5_snow_72 rfl
theorem eX5_snow_73 : ev X m_X5_snow 73 [a0, a1, a2, a3, a4, a5, a6, a7, a8, a9, a10, a11, a12, a13] st mem = ev X m_X5_snow 74 [a0, a1, a2, a3, a4, a5, a6, a7, a8, a9, a10, a11, a12, a13] (vL 0 :: st) mem := ke_lconst rfl dX5_snow_73
theorem eX5_snow_74 : ev X m_X5_snow 74 [a0, a1, a2, a3, a4, a5, a6, a7, a8, a9, a10, a11, a12, a13] (vL x :: st) mem = ev X m_X5_snow 76 [a0, a1, a2, a3, a4, a5, vL x, vS, a8, a9, a10, a11, a12, a13] st mem := ke_lstore (Nat.le_of_ble_eq_true rfl) rfl dX5_snow_74
theorem eX5_snow_76 : ev X m_X5_snow 76 [a0, a1, a2, a3, a4, a5, a6, a7, a8, a9, a10, a11, a12, a13] st mem = ev X m_X5_snow 77 [a0, a1, a2, a3, a4, a5, a6, a7, a8, a9, a10, a11, a12, a13] (vL 1 :: st) mem := ke_lconst rfl dX5_snow_76
theorem eX5_snow_77 : ev X m_X5_snow 77 [a0, a1, a2, a3, a4, a5, a6, a7, a8, a9, a10, a11, a12, a13] (vL x :: st) mem = ev X m_X5_snow 79 [a0, a1, a2, a3, a4, a5, a6, a7, vL x, vS, a10, a11, a12, a13] st mem := ke_lstore (Nat.le_of_ble_eq_true rfl) rfl dX5_snow_77
theorem eX5_snow_79 : ev X m_X5_snow 79 [a0, a1, a2, a3, a4, a5, a6, a7, a8, a9, a10, a11, a12, a13] st mem = ev X m_X5_snow 80 [a0, a1, a2, a3, a4, a5, a6, a7, a8, a9, a10, a11, a12, a13] (vI 0 :: st) mem := ke_iconst (by decide) dX5_snow_79
theorem eX5_snow_80 : ev X m_X5_snow 80 [a0, a1, a2, a3, a4, a5, a6, a7, a8, a9, a10, a11, a12, a13] (vI x :: st) mem = ev X m_X5_snow 82 [a0, a1, a2, a3, a4, a5, a6, a7, a8, a9, vI x, a11, a12, a13] st mem := ke_istore (Nat.le_of_ble_eq_true rfl) rfl dX5_snow_80
theorem eX5_snow_82 : ev X m_X5_snow 82 [a0, a1, a2, a3, a4, a5, a6, a7, a8, a9, vI x, a11, a12, a13] st mem = ev X m_X5_snow 84 [a0, a1, a2, a3, a4, a5, a6, a7, a8, a9, vI x, a11, a12, a13] (vI x :: st) mem := ke_iload rfl dX5_snow_82
theorem eX5_snow_84 : ev X m_X5_snow 84 [a0, a1, vI x, a3, a4, a5, a6, a7, a8, a9, a10, a11, a12, a13] st mem = ev X m_X5_snow 85 [a0, a1, vI x, a3, a4, a5, a6, a7, a8, a9, a10, a11, a12, a13] (vI x :: st) mem := ke_iload_n rfl dX5_snow_84
theorem eX5_snow_85 : ev X m_X5_snow 85 [a0, a1, a2, a3, a4, a5, a6, a7, a8, a9, a10, a11, a12, a13] (vI y :: vI x :: st) mem = if x < y then ev X m_X5_snow 88 [a0, a1, a2, a3, a4, a5, a6, a7, a8, a9, a10, a11, a12, a13] st mem else ev X m_X5_snow 101 [a0, a1, a2, a3, a4, a5, a6, a7, a8, a9, a10, a11, a12, a13] st mem := ke_icmp_ge dX5_snow_85 rfl
theorem eX5_snow_88 : ev X m_X5_snow 88 [a0, a1, a2, a3, a4, a5, a6, a7, vL x, vS, a10, a11, a12, a13] st mem = ev X m_X5_snow 90 [a0, a1, a2, a3, a4, a5, a6, a7, vL x, vS, a10, a11, a12, a13] (vL x :: st) mem := ke_lload rfl rfl dX5_snow_88
theorem eX5_snow_90 : ev X m_X5_snow 90 [a0, a1, a2, vI x, a4, a5, a6, a7, a8, a9, a10, a11, a12, a13] st mem = ev X m_X5_snow 91 [a0, a1, a2, vI x, a4, a5, a6, a7, a8, a9, a10, a11, a12, a13] (vI x :: st) mem := ke_iload_n rfl dX5_snow_90
theorem eX5_snow_91 : ev X m_X5_snow 91 [a0, a1, a2, a3, a4, a5, a6, a7, a8, a9, a10, a11, a12, a13] (vI x :: st) mem = ev X m_X5_snow 92 [a0, a1, a2, a3, a4, a5, a6, a7, a8, a9, a10, a11, a12, a13] (vL x :: st) mem := ke_i2l dX5_snow_91
theorem eX5_snow_92 : ev X m_X5_snow 92 [a0, a1, a2, a3, a4, a5, a6, a7, a8, a9, a10, a11, a12, a13] (vL y :: vL x :: st) mem = ev X m_X5_snow 93 [a0, a1, a2, a3, a4, a5, a6, a7, a8, a9, a10, a11, a12, a13] (vL (w64 (x * y)) :: st) mem := ke_lmul dX5_snow_92
theorem eX5_snow_93 : ev X m_X5_snow 93 [a0, a1, a2, a3, a4, a5, a6, a7, a8, a9, a10, a11, a12, a13] (vL x :: st) mem = ev X m_X5_snow 95 [a0, a1, a2, a3, a4, a5, a6, a7, vL x, vS, a10, a11, a12, a13] st mem := ke_lstore (Nat.le_of_ble_eq_true rfl) rfl dX5_snow_93
theorem eX5_snow_95 : ev X m_X5_snow 95 [a0, a1, a2, a3, a4, a5, a6, a7, a8, a9, vI x, a11, a12, a13] st mem = ev X m_X5_snow 98 [a0, a1, a2, a3, a4, a5, a6, a7, a8, a9, vI (w32 (x + 1)), a11, a12, a13] st mem := ke_iinc rfl (Nat.le_of_ble_eq_true rfl) rfl dX5_snow_95
theorem eX5_snow_98 : ev X m_X5_snow 98 [a0, a1, a2, a3, a4, a5, a6, a7, a8, a9, a10, a11, a12, a13] st mem = ev X m_X5_snow 82 [a0, a1, a2, a3, a4, a5, a6, a7, a8, a9, a10, a11, a12, a13] st mem := ke_goto dX5_snow_98 rfl
theorem eX5_snow_101 : ev X m_X5_snow 101 [a0, a1, a2, a3, a4, a5, a6, a7, a8, a9, a10, a11, a12, a13] st mem = ev X m_X5_snow 102 [a0, a1, a2, a3, a4, a5, a6, a7, a8, a9, a10, a11, a12, a13] (vI 0 :: st) mem := ke_iconst (by decide) dX5_snow_101
theorem eX5_snow_102 : ev X m_X5_snow 102 [a0, a1, a2, a3, a4, a5, a6, a7, a8, a9, a10, a11, a12, a13] (vI x :: st) mem = ev X m_X5_snow 104 [a0, a1, a2, a3, a4, a5, a6, a7, a8, a9, vI x, a11, a12, a13] st mem := ke_istore (Nat.le_of_ble_eq_true rfl) rfl dX5_snow_102
theorem eX5_snow_104 : ev X m_X5_snow 104 [a0, a1, a2, a3, a4, a5, a6, a7, a8, a9, vI x, a11, a12, a13] st mem = ev X m_X5_snow 106 [a0, a1, a2, a3, a4, a5, a6, a7, a8, a9, vI x, a11, a12, a13] (vI x :: st) mem := ke_iload rfl dX5_snow_104
theorem eX5_snow_106 : ev X m_X5_snow 106 [a0, a1, a2, a3, a4, a5, a6, a7, a8, a9, a10, a11, a12, a13] st mem = ev X m_X5_snow 107 [a0, a1, a2, a3, a4, a5, a6, a7, a8, a9, a10, a11, a12, a13] (vI 1 :: st) mem := ke_iconst (by decide) dX5_snow_106
theorem eX5_snow_107 : ev X m_X5_snow 107 [a0, a1, vI x, a3, a4, a5, a6, a7, a8, a9, a10, a11, a12, a13] st mem = ev X m_X5_snow 108 [a0, a1, vI x, a3, a4, a5, a6, a7, a8, a9, a10, a11, a12, a13] (vI x :: st) mem := ke_iload_n rfl dX5_snow_107
theorem eX5_snow_108 : ev X m_X5_snow 108 [a0, a1, a2, a3, a4, a5, a6, a7, a8, a9, a10, a11, a12, a13] (vI y :: vI x :: st) mem = ev X m_X5_snow 109 [a0, a1, a2, a3, a4, a5, a6, a7, a8, a9, a10, a11, a12, a13] (vI (shl32 x y) :: st) mem := ke_ishl dX5_snow_108
theorem eX5_snow_109 : ev X m_X5_snow 109 [a0, a1, a2, a3, a4, a5, a6, a7, a8, a9, a10, a11, a12, a13] (vI y :: vI x :: st) mem = if x < y then ev X m_X5_snow 112 [a0, a1, a2, a3, a4, a5, a6, a7, a8, a9, a10, a11, a12, a13] st mem else ev X m_X5_snow 199 [a0, a1, a2, a3, a4, a5, a6, a7, a8, a9, a10, a11, a12, a13] st mem := ke_icmp_ge dX5_snow_109 rfl
theorem eX5_snow_112 : ev X m_X5_snow 112 [vR r, a1, a2, a3, a4, a5, a6, a7, a8, a9, a10, a11, a12, a13] st mem = ev X m_X5_snow 113 [vR r, a1, a2, a3, a4, a5, a6, a7, a8, a9, a10, a11, a12, a13] (vR r :: st) mem := ke_aload_n rfl dX5_snow_112
theorem eX5_snow_113 : ev X m_X5_snow 113 [a0, a1, a2, a3, a4, a5, a6, a7, a8, a9, a10, a11, a12, a13] (vR r :: []) mem = evc X (gR mem r 5 (ev X m_X5_thinks 0 [vR r] [] mem)) m_X5_snow 116 [a0, a1, a2, a3, a4, a5, a6, a7, a8, a9, a10, a11, a12, a13] [] := ke_callV (m' := m_X5_thinks) (as := []) (n := 0) (rest := []) dX5_snow_113 rfl rfl rfl rfl rfl rfl (Nat.le_of_ble_eq_true rfl) (Nat.le_of_ble_eq_true rfl) (Nat.le_of_ble_eq_true rfl) rfl
theorem eX5_snow_116 : ev X m_X5_snow 116 [a0, a1, a2, a3, a4, a5, a6, a7, a8, a9, a10, a11, a12, a13] st mem = ev X m_X5_snow 117 [a0, a1, a2, a3, a4, a5, a6, a7, a8, a9, a10, a11, a12, a13] (vL 1 :: st) mem := ke_lconst rfl dX5_snow_116
theorem eX5_snow_117 : ev X m_X5_snow 117 [a0, a1, a2, a3, a4, a5, a6, a7, a8, a9, a10, a11, a12, a13] (vL x :: st) mem = ev X m_X5_snow 119 [a0, a1, a2, a3, a4, a5, a6, a7, a8, a9, a10, vL x, vS, a13] st mem := ke_lstore (Nat.le_of_ble_eq_true rfl) rfl dX5_snow_117
theorem eX5_snow_119 : ev X m_X5_snow 119 [a0, a1, a2, a3, a4, a5, a6, a7, a8, a9, a10, a11, a12, a13] st mem = ev X m_X5_snow 120 [a0, a1, a2, a3, a4, a5, a6, a7, a8, a9, a10, a11, a12, a13] (vI 0 :: st) mem := ke_iconst (by decide) dX5_snow_119
theorem eX5_snow_120 : ev X m_X5_snow 120 [a0, a1, a2, a3, a4, a5, a6, a7, a8, a9, a10, a11, a12, a13] (vI x :: st) mem = ev X m_X5_snow 122 [a0, a1, a2, a3, a4, a5, a6, a7, a8, a9, a10, a11, a12, vI x] st mem := ke_istore (Nat.le_of_ble_eq_true rfl) rfl dX5_snow_120
theorem eX5_snow_122 : ev X m_X5_snow 122 [a0, a1, a2, a3, a4, a5, a6, a7, a8, a9, a10, a11, a12, vI x] st mem = ev X m_X5_snow 124 [a0, a1, a2, a3, a4, a5, a6, a7, a8, a9, a10, a11, a12, vI x] (vI x :: st) mem := ke_iload rfl dX5_snow_122
theorem eX5_snow_124 : ev X m_X5_snow 124 [a0, a1, vI x, a3, a4, a5, a6, a7, a8, a9, a10, a11, a12, a13] st mem = ev X m_X5_snow 125 [a0, a1, vI x, a3, a4, a5, a6, a7, a8, a9, a10, a11, a12, a13] (vI x :: st) mem := ke_iload_n rfl dX5_snow_124
theorem eX5_snow_125 : ev X m_X5_snow 125 [a0, a1, a2, a3, a4, a5, a6, a7, a8, a9, a10, a11, a12, a13] (vI y :: vI x :: st) mem = if x < y then ev X m_X5_snow 128 [a0, a1, a2, a3, a4, a5, a6, a7, a8, a9, a10, a11, a12, a13] st mem else ev X m_X5_snow 168 [a0, a1, a2, a3, a4, a5, a6, a7, a8, a9, a10, a11, a12, a13] st mem := ke_icmp_ge dX5_snow_125 rfl
theorem eX5_snow_128 : ev X m_X5_snow 128 [a0, a1, a2, a3, a4, a5, a6, a7, a8, a9, a10, vL x, vS, a13] st mem = ev X m_X5_snow 130 [a0, a1, a2, a3, a4, a5, a6, a7, a8, a9, a10, vL x, vS, a13] (vL x :: st) mem := ke_lload rfl rfl dX5_snow_128
theorem eX5_snow_130 : ev X m_X5_snow 130 [a0, a1, a2, a3, a4, a5, a6, a7, a8, a9, vI x, a11, a12, a13] st mem = ev X m_X5_snow 132 [a0, a1, a2, a3, a4, a5, a6, a7, a8, a9, vI x, a11, a12, a13] (vI x :: st) mem := ke_iload rfl dX5_snow_130
theorem eX5_snow_132 : ev X m_X5_snow 132 [a0, a1, a2, a3, a4, a5, a6, a7, a8, a9, a10, a11, a12, vI x] st mem = ev X m_X5_snow 134 [a0, a1, a2, a3, a4, a5, a6, a7, a8, a9, a10, a11, a12, vI x] (vI x :: st) mem := ke_iload rfl dX5_snow_132
theorem eX5_snow_134 : ev X m_X5_snow 134 [a0, a1, a2, a3, a4, a5, a6, a7, a8, a9, a10, a11, a12, a13] (vI n1 :: vI n0 :: [s0]) mem = evc X (ev X m_X5_has 0 [vI n0, vI n1] [] mem) m_X5_snow 137 [a0, a1, a2, a3, a4, a5, a6, a7, a8, a9, a10, a11, a12, a13] [s0] := ke_callS (m' := m_X5_has) (as := [vI n0, vI n1]) (n := 2) (rest := [s0]) dX5_snow_134 rfl (by decide) rfl rfl rfl rfl rfl (Nat.le_of_ble_eq_true rfl) (Nat.le_of_ble_eq_true rfl) rfl
theorem eX5_snow_137 : ev X m_X5_snow 137 [a0, a1, a2, a3, a4, a5, a6, a7, a8, a9, a10, a11, a12, a13] (vI x :: st) mem = if x = 0 then ev X m_X5_snow 144 [a0, a1, a2, a3, a4, a5, a6, a7, a8, a9, a10, a11, a12, a13] st mem else ev X m_X5_snow 140 [a0, a1, a2, a3, a4, a5, a6, a7, a8, a9, a10, a11, a12, a13] st mem := ke_if_eq dX5_snow_137 rfl
theorem eX5_snow_140 : ev X m_X5_snow 140 [a0, a1, a2, a3, a4, a5, a6, a7, a8, a9, a10, a11, a12, a13] st mem = ev X m_X5_snow 141 [a0, a1, a2, a3, a4, a5, a6, a7, a8, a9, a10, a11, a12, a13] (vL 1 :: st) mem := ke_lconst rfl dX5_snow_140
theorem eX5_snow_141 : ev X m_X5_snow 141 [a0, a1, a2, a3, a4, a5, a6, a7, a8, a9, a10, a11, a12, a13] st mem = ev X m_X5_snow 148 [a0, a1, a2, a3, a4, a5, a6, a7, a8, a9, a10, a11, a12, a13] st mem := ke_goto dX5_snow_141 rfl
theorem eX5_snow_144 : ev X m_X5_snow 144 [a0, a1, a2, vI x, a4, a5, a6, a7, a8, a9, a10, a11, a12, a13] st mem = ev X m_X5_snow 145 [a0, a1, a2, vI x, a4, a5, a6, a7, a8, a9, a10, a11, a12, a13] (vI x :: st) mem := ke_iload_n rfl dX5_snow_144
theorem eX5_snow_145 : ev X m_X5_snow 145 [a0, a1, a2, a3, a4, a5, a6, a7, a8, a9, a10, a11, a12, a13] st mem = ev X m_X5_snow 146 [a0, a1, a2, a3, a4, a5, a6, a7, a8, a9, a10, a11, a12, a13] (vI 1 :: st) mem := ke_iconst (by decide) dX5_snow_145
theorem eX5_snow_146 : ev X m_X5_snow 146 [a0, a1, a2, a3, a4, a5, a6, a7, a8, a9, a10, a11, a12, a13] (vI y :: vI x :: st) mem = ev X m_X5_snow 147 [a0, a1, a2, a3, a4, a5, a6, a7, a8, a9, a10, a11, a12, a13] (vI (w32 (x - y)) :: st) mem := ke_isub dX5_snow_146
theorem eX5_snow_147 : ev X m_X5_snow 147 [a0, a1, a2, a3, a4, a5, a6, a7, a8, a9, a10, a11, a12, a13] (vI x :: st) mem = ev X m_X5_snow 148 [a0, a1, a2, a3, a4, a5, a6, a7, a8, a9, a10, a11, a12, a13] (vL x :: st) mem := ke_i2l dX5_snow_147
theorem eX5_snow_148 : ev X m_X5_snow 148 [a0, a1, a2, a3, a4, a5, a6, a7, a8, a9, a10, a11, a12, a13] (vL y :: vL x :: st) mem = ev X m_X5_snow 149 [a0, a1, a2, a3, a4, a5, a6, a7, a8, a9, a10, a11, a12, a13] (vL (w64 (x * y)) :: st) mem := ke_lmul dX5_snow_148
theorem eX5_snow_149 : ev X m_X5_snow 149 [a0, a1, a2, a3, a4, a5, a6, a7, a8, a9, a10, a11, a12, a13] (vL x :: st) mem = ev X m_X5_snow 151 [a0, a1, a2, a3, a4, a5, a6, a7, a8, a9, a10, vL x, vS, a13] st mem := ke_lstore (Nat.le_of_ble_eq_true rfl) rfl dX5_snow_149
theorem eX5_snow_151 : ev X m_X5_snow 151 [vR r, a1, a2, a3, a4, a5, a6, a7, a8, a9, a10, a11, a12, a13] st mem = ev X m_X5_snow 152 [vR r, a1, a2, a3, a4, a5, a6, a7, a8, a9, a10, a11, a12, a13] (vR r :: st) mem := ke_aload_n rfl dX5_snow_151
theorem eX5_snow_152 : ev X m_X5_snow 152 [a0, a1, a2, a3, a4, a5, a6, a7, a8, a9, vI x, a11, a12, a13] st mem = ev X m_X5_snow 154 [a0, a1, a2, a3, a4, a5, a6, a7, a8, a9, vI x, a11, a12, a13] (vI x :: st) mem := ke_iload rfl dX5_snow_152
theorem eX5_snow_154 : ev X m_X5_snow 154 [a0, a1, a2, a3, a4, a5, a6, a7, a8, a9, a10, a11, a12, vI x] st mem = ev X m_X5_snow 156 [a0, a1, a2, a3, a4, a5, a6, a7, a8, a9, a10, a11, a12, vI x] (vI x :: st) mem := ke_iload rfl dX5_snow_154
theorem eX5_snow_156 : ev X m_X5_snow 156 [a0, a1, a2, a3, a4, a5, a6, a7, a8, a9, a10, a11, a12, a13] (vI n1 :: vI n0 :: [s0]) mem = evc X (ev X m_X5_has 0 [vI n0, vI n1] [] mem) m_X5_snow 159 [a0, a1, a2, a3, a4, a5, a6, a7, a8, a9, a10, a11, a12, a13] [s0] := ke_callS (m' := m_X5_has) (as := [vI n0, vI n1]) (n := 2) (rest := [s0]) dX5_snow_156 rfl (by decide) rfl rfl rfl rfl rfl (Nat.le_of_ble_eq_true rfl) (Nat.le_of_ble_eq_true rfl) rfl
theorem eX5_snow_159 : ev X m_X5_snow 159 [a0, a1, a2, a3, a4, a5, a6, a7, a8, a9, a10, a11, a12, a13] (vI n0 :: vR r :: []) mem = evc X (gR mem r 5 (ev X m_X5_goesDay 0 [vR r, vI n0, vS] [] mem)) m_X5_snow 162 [a0, a1, a2, a3, a4, a5, a6, a7, a8, a9, a10, a11, a12, a13] [] := ke_callV (m' := m_X5_goesDay) (as := [vI n0]) (n := 1) (rest := []) dX5_snow_159 rfl rfl rfl rfl rfl rfl (Nat.le_of_ble_eq_true rfl) (Nat.le_of_ble_eq_true rfl) (Nat.le_of_ble_eq_true rfl) rfl
theorem eX5_snow_162 : ev X m_X5_snow 162 [a0, a1, a2, a3, a4, a5, a6, a7, a8, a9, a10, a11, a12, vI x] st mem = ev X m_X5_snow 165 [a0, a1, a2, a3, a4, a5, a6, a7, a8, a9, a10, a11, a12, vI (w32 (x + 1))] st mem := ke_iinc rfl (Nat.le_of_ble_eq_true rfl) rfl dX5_snow_162
theorem eX5_snow_165 : ev X m_X5_snow 165 [a0, a1, a2, a3, a4, a5, a6, a7, a8, a9, a10, a11, a12, a13] st mem = ev X m_X5_snow 122 [a0, a1, a2, a3, a4, a5, a6, a7, a8, a9, a10, a11, a12, a13] st mem := ke_goto dX5_snow_165 rfl
theorem eX5_snow_168 : ev X m_X5_snow 168 [a0, a1, a2, a3, a4, a5, vL x, vS, a8, a9, a10, a11, a12, a13] st mem = ev X m_X5_snow 170 [a0, a1, a2, a3, a4, a5, vL x, vS, a8, a9, a10, a11, a12, a13] (vL x :: st) mem := ke_lload rfl rfl dX5_snow_168
theorem eX5_snow_170 : ev X m_X5_snow 170 [vR r, a1, a2, a3, a4, a5, a6, a7, a8, a9, a10, a11, a12, a13] st mem = ev X m_X5_snow 171 [vR r, a1, a2, a3, a4, a5, a6, a7, a8, a9, a10, a11, a12, a13] (vR r :: st) mem := ke_aload_n rfl dX5_snow_170
theorem eX5_snow_171 : ev X m_X5_snow 171 [a0, a1, a2, a3, a4, a5, a6, a7, a8, a9, a10, a11, a12, a13] (vR r :: st) mem = evb X (fget mem r 5 8) m_X5_snow 174 [a0, a1, a2, a3, a4, a5, a6, a7, a8, a9, a10, a11, a12, a13] st mem := ke_getf rfl dX5_snow_171
theorem eX5_snow_174 : ev X m_X5_snow 174 [a0, vI x, a2, a3, a4, a5, a6, a7, a8, a9, a10, a11, a12, a13] st mem = ev X m_X5_snow 175 [a0, vI x, a2, a3, a4, a5, a6, a7, a8, a9, a10, a11, a12, a13] (vI x :: st) mem := ke_iload_n rfl dX5_snow_174
theorem eX5_snow_175 : ev X m_X5_snow 175 [a0, a1, a2, a3, a4, a5, a6, a7, a8, a9, a10, a11, a12, a13] (vI x :: vR r :: st) mem = evb X (aget mem r x) m_X5_snow 176 [a0, a1, a2, a3, a4, a5, a6, a7, a8, a9, a10, a11, a12, a13] st mem := ke_iaload dX5_snow_175
theorem eX5_snow_176 : ev X m_X5_snow 176 [a0, a1, a2, a3, a4, a5, a6, a7, a8, a9, a10, a11, a12, a13] st mem = ev X m_X5_snow 177 [a0, a1, a2, a3, a4, a5, a6, a7, a8, a9, a10, a11, a12, a13] (vI 2 :: st) mem := ke_iconst (by decide) dX5_snow_176
theorem eX5_snow_177 : ev X m_X5_snow 177 [a0, a1, a2, a3, a4, a5, a6, a7, a8, a9, a10, a11, a12, a13] (vI y :: vI x :: st) mem = if x = y then ev X m_X5_snow 180 [a0, a1, a2, a3, a4, a5, a6, a7, a8, a9, a10, a11, a12, a13] st mem else ev X m_X5_snow 185 [a0, a1, a2, a3, a4, a5, a6, a7, a8, a9, a10, a11, a12, a13] st mem := ke_icmp_ne dX5_snow_177 rfl
theorem eX5_snow_180 : ev X m_X5_snow 180 [a0, a1, a2, a3, a4, a5, a6, a7, a8, a9, a10, vL x, vS, a13] st mem = ev X m_X5_snow 182 [a0, a1, a2, a3, a4, a5, a6, a7, a8, a9, a10, vL x, vS, a13] (vL x :: st) mem := ke_lload rfl rfl dX5_snow_180
theorem eX5_snow_182 : ev X m_X5_snow 182 [a0, a1, a2, a3, a4, a5, a6, a7, a8, a9, a10, a11, a12, a13] st mem = ev X m_X5_snow 186 [a0, a1, a2, a3, a4, a5, a6, a7, a8, a9, a10, a11, a12, a13] st mem := ke_goto dX5_snow_182 rfl
theorem eX5_snow_185 : ev X m_X5_snow 185 [a0, a1, a2, a3, a4, a5, a6, a7, a8, a9, a10, a11, a12, a13] st mem = ev X m_X5_snow 186 [a0, a1, a2, a3, a4, a5, a6, a7, a8, a9, a10, a11, a12, a13] (vL 0 :: st) mem := ke_lconst rfl dX5_snow_185
theorem eX5_snow_186 : ev X m_X5_snow 186 [a0, a1, a2, a3, a4, a5, a6, a7, a8, a9, a10, a11, a12, a13] (vL y :: vL x :: st) mem = ev X m_X5_snow 187 [a0, a1, a2, a3, a4, a5, a6, a7, a8, a9, a10, a11, a12, a13] (vL (w64 (x + y)) :: st) mem := ke_ladd dX5_snow_186
theorem eX5_snow_187 : ev X m_X5_snow 187 [a0, a1, a2, a3, a4, a5, a6, a7, a8, a9, a10, a11, a12, a13] (vL x :: st) mem = ev X m_X5_snow 189 [a0, a1, a2, a3, a4, a5, vL x, vS, a8, a9, a10, a11, a12, a13] st mem := ke_lstore (Nat.le_of_ble_eq_true rfl) rfl dX5_snow_187
theorem eX5_snow_189 : ev X m_X5_snow 189 [vR r, a1, a2, a3, a4, a5, a6, a7, a8, a9, a10, a11, a12, a13] st mem = ev X m_X5_snow 190 [vR r, a1, a2, a3, a4, a5, a6, a7, a8, a9, a10, a11, a12, a13] (vR r :: st) mem := ke_aload_n rfl dX5_snow_189
theorem eX5_snow_190 : ev X m_X5_snow 190 [a0, a1, a2, a3, a4, a5, a6, a7, a8, a9, a10, a11, a12, a13] (vR r :: []) mem = evc X (gR mem r 5 (ev X m_X5_forgets 0 [vR r] [] mem)) m_X5_snow 193 [a0, a1, a2, a3, a4, a5, a6, a7, a8, a9, a10, a11, a12, a13] [] := ke_callV (m' := m_X5_forgets) (as := []) (n := 0) (rest := []) dX5_snow_190 rfl rfl rfl rfl rfl rfl (Nat.le_of_ble_eq_true rfl) (Nat.le_of_ble_eq_true rfl) (Nat.le_of_ble_eq_true rfl) rfl
theorem eX5_snow_193 : ev X m_X5_snow 193 [a0, a1, a2, a3, a4, a5, a6, a7, a8, a9, vI x, a11, a12, a13] st mem = ev X m_X5_snow 196 [a0, a1, a2, a3, a4, a5, a6, a7, a8, a9, vI (w32 (x + 1)), a11, a12, a13] st mem := ke_iinc rfl (Nat.le_of_ble_eq_true rfl) rfl dX5_snow_193
theorem eX5_snow_196 : ev X m_X5_snow 196 [a0, a1, a2, a3, a4, a5, a6, a7, a8, a9, a10, a11, a12, a13] st mem = ev X m_X5_snow 104 [a0, a1, a2, a3, a4, a5, a6, a7, a8, a9, a10, a11, a12, a13] st mem := ke_goto dX5_snow_196 rfl
theorem eX5_snow_199 : ev X m_X5_snow 199 [a0, a1, a2, a3, a4, a5, vL x, vS, a8, a9, a10, a11, a12, a13] st mem = ev X m_X5_snow 201 [a0, a1, a2, a3, a4, a5, vL x, vS, a8, a9, a10, a11, a12, a13] (vL x :: st) mem := ke_lload rfl rfl dX5_snow_199
theorem eX5_snow_201 : ev X m_X5_snow 201 [a0, a1, a2, a3, a4, a5, a6, a7, vL x, vS, a10, a11, a12, a13] st mem = ev X m_X5_snow 203 [a0, a1, a2, a3, a4, a5, a6, a7, vL x, vS, a10, a11, a12, a13] (vL x :: st) mem := ke_lload rfl rfl dX5_snow_201
theorem eX5_snow_203 : ev X m_X5_snow 203 [a0, a1, a2, a3, vI x, a5, a6, a7, a8, a9, a10, a11, a12, a13] st mem = ev X m_X5_snow 205 [a0, a1, a2, a3, vI x, a5, a6, a7, a8, a9, a10, a11, a12, a13] (vI x :: st) mem := ke_iload rfl dX5_snow_203
theorem eX5_snow_205 : ev X m_X5_snow 205 [a0, a1, a2, a3, a4, a5, a6, a7, a8, a9, a10, a11, a12, a13] (vI n2 :: vL n1 :: vL n0 :: []) mem = evc X (ev X m_X5_partOf 0 [vL n0, vS, vL n1, vS, vI n2] [] mem) m_X5_snow 208 [a0, a1, a2, a3, a4, a5, a6, a7, a8, a9, a10, a11, a12, a13] [] := ke_callS (m' := m_X5_partOf) (as := [vL n0, vL n1, vI n2]) (n := 3) (rest := []) dX5_snow_205 rfl (by decide) rfl rfl rfl rfl rfl (Nat.le_of_ble_eq_true rfl) (Nat.le_of_ble_eq_true rfl) rfl
theorem eX5_snow_208 : ev X m_X5_snow 208 [a0, a1, a2, a3, a4, a5, a6, a7, a8, a9, a10, a11, a12, a13] [vL x] mem = some (some (vL x), mem) := ke_lreturn dX5_snow_208 rfl
theorem eX5_lowestOf_0 : ev X m_X5_lowestOf 0 [vR r, a1] st mem = ev X m_X5_lowestOf 1 [vR r, a1] (vR r :: st) mem := ke_aload_n rfl dX5_lowestOf_0
theorem eX5_lowestOf_1 : ev X m_X5_lowestOf 1 [a0, a1] (vR r :: st) mem = evb X (fget mem r 5 0) m_X5_lowestOf 4 [a0, a1] st mem := ke_getf rfl dX5_lowestOf_1
theorem eX5_lowestOf_4 : ev X m_X5_lowestOf 4 [a0, vI x] st mem = ev X m_X5_lowestOf 5 [a0, vI x] (vI x :: st) mem := ke_iload_n rfl dX5_lowestOf_4
theorem eX5_lowestOf_5 : ev X m_X5_lowestOf 5 [a0, a1] (vI x :: st) mem = ev X m_X5_lowestOf 6 [a0, a1] (vI (w32 (-x)) :: st) mem := ke_ineg dX5_lowestOf_5
theorem eX5_lowestOf_6 : ev X m_X5_lowestOf 6 [a0, a1] (vI x :: vR r :: st) mem = ev X m_X5_lowestOf 7 [a0, a1] (vI x :: vR r :: vI x :: vR r :: st) mem := ke_dup2 dX5_lowestOf_6
theorem eX5_lowestOf_7 : ev X m_X5_lowestOf 7 [a0, a1] (vI x :: vR r :: st) mem = evb X (aget mem r x) m_X5_lowestOf 8 [a0, a1] st mem := ke_iaload dX5_lowestOf_7
theorem eX5_lowestOf_8 : ev X m_X5_lowestOf 8 [a0, a1] st mem = ev X m_X5_lowestOf 9 [a0, a1] (vI 1 :: st) mem := ke_iconst (by decide) dX5_lowestOf_8
theorem eX5_lowestOf_9 : ev X m_X5_lowestOf 9 [a0, a1] (vI y :: vI x :: st) mem = ev X m_X5_lowestOf 10 [a0, a1] (vI (w32 (x + y)) :: st) mem := ke_iadd dX5_lowestOf_9
theorem eX5_lowestOf_10 : ev X m_X5_lowestOf 10 [a0, a1] (vI y :: vI x :: vR r :: st) mem = evm X (aput mem r x y) m_X5_lowestOf 11 [a0, a1] st := ke_iastore dX5_lowestOf_10
theorem eX5_lowestOf_11 : ev X m_X5_lowestOf 11 [a0, a1] st mem = ev X m_X5_lowestOf 14 [a0, a1] (vL 4000000000000000000 :: st) mem := ke_ldc2 (n := 4000000000000000000) rfl (by decide) dX5_lowestOf_11
theorem eX5_lowestOf_14 : ev X m_X5_lowestOf 14 [a0, vI x] st mem = ev X m_X5_lowestOf 15 [a0, vI x] (vI x :: st) mem := ke_iload_n rfl dX5_lowestOf_14
theorem eX5_lowestOf_15 : ev X m_X5_lowestOf 15 [a0, a1] (vI x :: st) mem = ev X m_X5_lowestOf 16 [a0, a1] (vL x :: st) mem := ke_i2l dX5_lowestOf_15
theorem eX5_lowestOf_16 : ev X m_X5_lowestOf 16 [a0, a1] (vL y :: vL x :: st) mem = ev X m_X5_lowestOf 17 [a0, a1] (vL (w64 (x - y)) :: st) mem := ke_lsub dX5_lowestOf_16
theorem eX5_lowestOf_17 : ev X m_X5_lowestOf 17 [a0, a1] [vL x] mem = some (some (vL x), mem) := ke_lreturn dX5_lowestOf_17 rfl
theorem eX5_partOf_0 : ev X m_X5_partOf 0 [a0, a1, a2, a3, vI x] st mem = ev X m_X5_partOf 2 [a0, a1, a2, a3, vI x] (vI x :: st) mem := ke_iload rfl dX5_partOf_0
theorem eX5_partOf_2 : ev X m_X5_partOf 2 [a0, a1, a2, a3, a4] (vI x :: st) mem = if x = 0 then ev X m_X5_partOf 5 [a0, a1, a2, a3, a4] st mem else ev X m_X5_partOf 9 [a0, a1, a2, a3, a4] st mem := ke_if_ne dX5_partOf_2 rfl
theorem eX5_partOf_5 : ev X m_X5_partOf 5 [vL x, vS, a2, a3, a4] st mem = ev X m_X5_partOf 6 [vL x, vS, a2, a3, a4] (vL x :: st) mem := ke_lload_n rfl rfl dX5_partOf_5
theorem eX5_partOf_6 : ev X m_X5_partOf 6 [a0, a1, a2, a3, a4] st mem = ev X m_X5_partOf 10 [a0, a1, a2, a3, a4] st mem := ke_goto dX5_partOf_6 rfl
theorem eX5_partOf_9 : ev X m_X5_partOf 9 [a0, a1, vL x, vS, a4] st mem = ev X m_X5_partOf 10 [a0, a1, vL x, vS, a4] (vL x :: st) mem := ke_lload_n rfl rfl dX5_partOf_9
theorem eX5_partOf_10 : ev X m_X5_partOf 10 [vL x, vS, a2, a3, a4] st mem = ev X m_X5_partOf 11 [vL x, vS, a2, a3, a4] (vL x :: st) mem := ke_lload_n rfl rfl dX5_partOf_10
theorem eX5_partOf_11 : ev X m_X5_partOf 11 [a0, a1, vL x, vS, a4] st mem = ev X m_X5_partOf 12 [a0, a1, vL x, vS, a4] (vL x :: st) mem := ke_lload_n rfl rfl dX5_partOf_11
theorem eX5_partOf_12 : ev X m_X5_partOf 12 [a0, a1, a2, a3, a4] (vL n1 :: vL n0 :: [s0]) mem = evc X (ev X m_X5_divisor 0 [vL n0, vS, vL n1, vS, vS, vS, vS, vS, vS, vS] [] mem) m_X5_partOf 15 [a0, a1, a2, a3, a4] [s0] := ke_callS (m' := m_X5_divisor) (as := [vL n0, vL n1]) (n := 2) (rest := [s0]) dX5_partOf_12 rfl (by decide) rfl rfl rfl rfl rfl (Nat.le_of_ble_eq_true rfl) (Nat.le_of_ble_eq_true rfl) rfl
theorem eX5_partOf_15 : ev X m_X5_partOf 15 [a0, a1, a2, a3, a4] (vL y :: vL x :: st) mem = if y = 0 then none else ev X m_X5_partOf 16 [a0, a1, a2, a3, a4] (vL (w64 (x.tdiv y)) :: st) mem := ke_ldiv dX5_partOf_15
theorem eX5_partOf_16 : ev X m_X5_partOf 16 [a0, a1, a2, a3, a4] [vL x] mem = some (some (vL x), mem) := ke_lreturn dX5_partOf_16 rfl
theorem eX5_divisor_0 : ev X m_X5_divisor 0 [vL x, vS, a2, a3, a4, a5, a6, a7, a8, a9] st mem = ev X m_X5_divisor 1 [vL x, vS, a2, a3, a4, a5, a6, a7, a8, a9] (vL x :: st) mem := ke_lload_n rfl rfl dX5_divisor_0
theorem eX5_divisor_1 : ev X m_X5_divisor 1 [a0, a1, a2, a3, a4, a5, a6, a7, a8, a9] (vL x :: st) mem = ev X m_X5_divisor 3 [a0, a1, a2, a3, vL x, vS, a6, a7, a8, a9] st mem := ke_lstore (Nat.le_of_ble_eq_true rfl) rfl dX5_divisor_1
theorem eX5_divisor_3 : ev X m_X5_divisor 3 [a0, a1, vL x, vS, a4, a5, a6, a7, a8, a9] st mem = ev X m_X5_divisor 4 [a0, a1, vL x, vS, a4, a5, a6, a7, a8, a9] (vL x :: st) mem := ke_lload_n rfl rfl dX5_divisor_3
theorem eX5_divisor_4 : ev X m_X5_divisor 4 [a0, a1, a2, a3, a4, a5, a6, a7, a8, a9] (vL x :: st) mem = ev X m_X5_divisor 6 [a0, a1, a2, a3, a4, a5, vL x, vS, a8, a9] st mem := ke_lstore (Nat.le_of_ble_eq_true rfl) rfl dX5_divisor_4
theorem eX5_divisor_6 : ev X m_X5_divisor 6 [a0, a1, a2, a3, a4, a5, vL x, vS, a8, a9] st mem = ev X m_X5_divisor 8 [a0, a1, a2, a3, a4, a5, vL x, vS, a8, a9] (vL x :: st) mem := ke_lload rfl rfl dX5_divisor_6
theorem eX5_divisor_8 : ev X m_X5_divisor 8 [a0, a1, a2, a3, a4, a5, a6, a7, a8, a9] st mem = ev X m_X5_divisor 9 [a0, a1, a2, a3, a4, a5, a6, a7, a8, a9] (vL 0 :: st) mem := ke_lconst rfl dX5_divisor_8
theorem eX5_divisor_9 : ev X m_X5_divisor 9 [a0, a1, a2, a3, a4, a5, a6, a7, a8, a9] (vL y :: vL x :: st) mem = ev X m_X5_divisor 10 [a0, a1, a2, a3, a4, a5, a6, a7, a8, a9] (vI (lcmp x y) :: st) mem := ke_lcmp dX5_divisor_9
theorem eX5_divisor_10 : ev X m_X5_divisor 10 [a0, a1, a2, a3, a4, a5, a6, a7, a8, a9] (vI x :: st) mem = if x = 0 then ev X m_X5_divisor 31 [a0, a1, a2, a3, a4, a5, a6, a7, a8, a9] st mem else ev X m_X5_divisor 13 [a0, a1, a2, a3, a4, a5, a6, a7, a8, a9] st mem := ke_if_eq dX5_divisor_10 rfl
theorem eX5_divisor_13 : ev X m_X5_divisor 13 [a0, a1, a2, a3, vL x, vS, a6, a7, a8, a9] st mem = ev X m_X5_divisor 15 [a0, a1, a2, a3, vL x, vS, a6, a7, a8, a9] (vL x :: st) mem := ke_lload rfl rfl dX5_divisor_13
theorem eX5_divisor_15 : ev X m_X5_divisor 15 [a0, a1, a2, a3, a4, a5, vL x, vS, a8, a9] st mem = ev X m_X5_divisor 17 [a0, a1, a2, a3, a4, a5, vL x, vS, a8, a9] (vL x :: st) mem := ke_lload rfl rfl dX5_divisor_15
theorem eX5_divisor_17 : ev X m_X5_divisor 17 [a0, a1, a2, a3, a4, a5, a6, a7, a8, a9] (vL y :: vL x :: st) mem = if y = 0 then none else ev X m_X5_divisor 18 [a0, a1, a2, a3, a4, a5, a6, a7, a8, a9] (vL (w64 (x.tmod y)) :: st) mem := ke_lrem dX5_divisor_17
theorem eX5_divisor_18 : ev X m_X5_divisor 18 [a0, a1, a2, a3, a4, a5, a6, a7, a8, a9] (vL x :: st) mem = ev X m_X5_divisor 20 [a0, a1, a2, a3, a4, a5, a6, a7, vL x, vS] st mem := ke_lstore (Nat.le_of_ble_eq_true rfl) rfl dX5_divisor_18
theorem eX5_divisor_20 : ev X m_X5_divisor 20 [a0, a1, a2, a3, a4, a5, vL x, vS, a8, a9] st mem = ev X m_X5_divisor 22 [a0, a1, a2, a3, a4, a5, vL x, vS, a8, a9] (vL x :: st) mem := ke_lload rfl rfl dX5_divisor_20
theorem eX5_divisor_22 : ev X m_X5_divisor 22 [a0, a1, a2, a3, a4, a5, a6, a7, a8, a9] (vL x :: st) mem = ev X m_X5_divisor 24 [a0, a1, a2, a3, vL x, vS, a6, a7, a8, a9] st mem := ke_lstore (Nat.le_of_ble_eq_true rfl) rfl dX5_divisor_22
theorem eX5_divisor_24 : ev X m_X5_divisor 24 [a0, a1, a2, a3, a4, a5, a6, a7, vL x, vS] st mem = ev X m_X5_divisor 26 [a0, a1, a2, a3, a4, a5, a6, a7, vL x, vS] (vL x :: st) mem := ke_lload rfl rfl dX5_divisor_24
theorem eX5_divisor_26 : ev X m_X5_divisor 26 [a0, a1, a2, a3, a4, a5, a6, a7, a8, a9] (vL x :: st) mem = ev X m_X5_divisor 28 [a0, a1, a2, a3, a4, a5, vL x, vS, a8, a9] st mem := ke_lstore (Nat.le_of_ble_eq_true rfl) rfl dX5_divisor_26
theorem eX5_divisor_28 : ev X m_X5_divisor 28 [a0, a1, a2, a3, a4, a5, a6, a7, a8, a9] st mem = ev X m_X5_divisor 6 [a0, a1, a2, a3, a4, a5, a6, a7, a8, a9] st mem := ke_goto dX5_divisor_28 rfl
theorem eX5_divisor_31 : ev X m_X5_divisor 31 [a0, a1, a2, a3, vL x, vS, a6, a7, a8, a9] st mem = ev X m_X5_divisor 33 [a0, a1, a2, a3, vL x, vS, a6, a7, a8, a9] (vL x :: st) mem := ke_lload rfl rfl dX5_divisor_31
theorem eX5_divisor_33 : ev X m_X5_divisor 33 [a0, a1, a2, a3, a4, a5, a6, a7, a8, a9] [vL x] mem = some (some (vL x), mem) := ke_lreturn dX5_divisor_33 rfl
theorem eX5_mean_0 : ev X m_X5_mean 0 [a0, vI x] st mem = ev X m_X5_mean 1 [a0, vI x] (vI x :: st) mem := ke_iload_n rfl dX5_mean_0
theorem eX5_mean_1 : ev X m_X5_mean 1 [a0, a1] st mem = ev X m_X5_mean 2 [a0, a1] (vI 0 :: st) mem := ke_iconst (by decide) dX5_mean_1
theorem eX5_mean_2 : ev X m_X5_mean 2 [a0, a1] st mem = ev X m_X5_mean 3 [a0, a1] (vI 1 :: st) mem := ke_iconst (by decide) dX5_mean_2
theorem eX5_mean_3 : ev X m_X5_mean 3 [a0, a1] (vI n2 :: vI n1 :: vI n0 :: []) mem = evc X (ev X m_X5_isIn 0 [vI n0, vI n1, vI n2] [] mem) m_X5_mean 6 [a0, a1] [] := ke_callS (m' := m_X5_isIn) (as := [vI n0, vI n1, vI n2]) (n := 3) (rest := []) dX5_mean_3 rfl (by decide) rfl rfl rfl rfl rfl (Nat.le_of_ble_eq_true rfl) (Nat.le_of_ble_eq_true rfl) rfl
theorem eX5_mean_6 : ev X m_X5_mean 6 [a0, a1] (vI x :: st) mem = if x = 0 then ev X m_X5_mean 9 [a0, a1] st mem else ev X m_X5_mean 16 [a0, a1] st mem := ke_if_ne dX5_mean_6 rfl
theorem eX5_mean_9 : ev X m_X5_mean 9 [vR r, a1] st mem = ev X m_X5_mean 10 [vR r, a1] (vR r :: st) mem := ke_aload_n rfl dX5_mean_9
theorem eX5_mean_10 : ev X m_X5_mean 10 [a0, a1] st mem = ev X m_X5_mean 12 [a0, a1] (vI (-2) :: st) mem := ke_bipush (by decide) dX5_mean_10
theorem eX5_mean_12 : ev X m_X5_mean 12 [a0, a1] (vI n0 :: vR r :: []) mem = evc X (gR mem r 5 (ev X m_X5_lowestOf 0 [vR r, vI n0] [] mem)) m_X5_mean 15 [a0, a1] [] := ke_callV (m' := m_X5_lowestOf) (as := [vI n0]) (n := 1) (rest := []) dX5_mean_12 rfl rfl rfl rfl rfl rfl (Nat.le_of_ble_eq_true rfl) (Nat.le_of_ble_eq_true rfl) (Nat.le_of_ble_eq_true rfl) rfl
theorem eX5_mean_15 : ev X m_X5_mean 15 [a0, a1] [vL x] mem = some (some (vL x), mem) := ke_lreturn dX5_mean_15 rfl
theorem eX5_mean_16 : ev X m_X5_mean 16 [vR r, a1] st mem = ev X m_X5_mean 17 [vR r, a1] (vR r :: st) mem := ke_aload_n rfl dX5_mean_16
theorem eX5_mean_17 : ev X m_X5_mean 17 [a0, a1] (vR r :: st) mem = evb X (fget mem r 5 11) m_X5_mean 20 [a0, a1] st mem := ke_getf rfl dX5_mean_17
theorem eX5_mean_20 : ev X m_X5_mean 20 [a0, a1] st mem = ev X m_X5_mean 21 [a0, a1] (vI 2 :: st) mem := ke_iconst (by decide) dX5_mean_20
theorem eX5_mean_21 : ev X m_X5_mean 21 [a0, a1] (vI y :: vI x :: st) mem = if x < y then ev X m_X5_mean 24 [a0, a1] st mem else ev X m_X5_mean 29 [a0, a1] st mem := ke_icmp_ge dX5_mean_21 rfl
theorem eX5_mean_24 : ev X m_X5_mean 24 [a0, vI x] st mem = ev X m_X5_mean 25 [a0, vI x] (vI x :: st) mem := ke_iload_n rfl dX5_mean_24
theorem eX5_mean_25 : ev X m_X5_mean 25 [a0, a1] (vI x :: st) mem = ev X m_X5_mean 26 [a0, a1] (vL x :: st) mem := ke_i2l dX5_mean_25
theorem eX5_mean_26 : ev X m_X5_mean 26 [a0, a1] st mem = ev X m_X5_mean 50 [a0, a1] st mem := ke_goto dX5_mean_26 rfl
theorem eX5_mean_29 : ev X m_X5_mean 29 [vR r, a1] st mem = ev X m_X5_mean 30 [vR r, a1] (vR r :: st) mem := ke_aload_n rfl dX5_mean_29
theorem eX5_mean_30 : ev X m_X5_mean 30 [a0, a1] (vR r :: []) mem = evc X (gR mem r 5 (ev X m_X5_allHate 0 [vR r, vS, vS] [] mem)) m_X5_mean 33 [a0, a1] [] := ke_callV (m' := m_X5_allHate) (as := []) (n := 0) (rest := []) dX5_mean_30 rfl rfl rfl rfl rfl rfl (Nat.le_of_ble_eq_true rfl) (Nat.le_of_ble_eq_true rfl) (Nat.le_of_ble_eq_true rfl) rfl
theorem eX5_mean_33 : ev X m_X5_mean 33 [a0, a1] (vI x :: st) mem = ev X m_X5_mean 34 [a0, a1] (vL x :: st) mem := ke_i2l dX5_mean_33
theorem eX5_mean_34 : ev X m_X5_mean 34 [vR r, a1] st mem = ev X m_X5_mean 35 [vR r, a1] (vR r :: st) mem := ke_aload_n rfl dX5_mean_34
theorem eX5_mean_35 : ev X m_X5_mean 35 [a0, a1] (vR r :: st) mem = evb X (fget mem r 5 11) m_X5_mean 38 [a0, a1] st mem := ke_getf rfl dX5_mean_35
theorem eX5_mean_38 : ev X m_X5_mean 38 [vR r, a1] st mem = ev X m_X5_mean 39 [vR r, a1] (vR r :: st) mem := ke_aload_n rfl dX5_mean_38
theorem eX5_mean_39 : ev X m_X5_mean 39 [a0, a1] (vR r :: st) mem = evb X (fget mem r 5 11) m_X5_mean 42 [a0, a1] st mem := ke_getf rfl dX5_mean_39
theorem eX5_mean_42 : ev X m_X5_mean 42 [a0, a1] st mem = ev X m_X5_mean 43 [a0, a1] (vI 1 :: st) mem := ke_iconst (by decide) dX5_mean_42
theorem eX5_mean_43 : ev X m_X5_mean 43 [a0, a1] (vI y :: vI x :: st) mem = ev X m_X5_mean 44 [a0, a1] (vI (w32 (x - y)) :: st) mem := ke_isub dX5_mean_43
theorem eX5_mean_44 : ev X m_X5_mean 44 [a0, a1] (vI y :: vI x :: st) mem = ev X m_X5_mean 45 [a0, a1] (vI (w32 (x * y)) :: st) mem := ke_imul dX5_mean_44
theorem eX5_mean_45 : ev X m_X5_mean 45 [a0, a1] (vI x :: st) mem = ev X m_X5_mean 46 [a0, a1] (vL x :: st) mem := ke_i2l dX5_mean_45
theorem eX5_mean_46 : ev X m_X5_mean 46 [a0, vI x] st mem = ev X m_X5_mean 47 [a0, vI x] (vI x :: st) mem := ke_iload_n rfl dX5_mean_46
theorem eX5_mean_47 : ev X m_X5_mean 47 [a0, a1] (vI n2 :: vL n1 :: vL n0 :: []) mem = evc X (ev X m_X5_partOf 0 [vL n0, vS, vL n1, vS, vI n2] [] mem) m_X5_mean 50 [a0, a1] [] := ke_callS (m' := m_X5_partOf) (as := [vL n0, vL n1, vI n2]) (n := 3) (rest := []) dX5_mean_47 rfl (by decide) rfl rfl rfl rfl rfl (Nat.le_of_ble_eq_true rfl) (Nat.le_of_ble_eq_true rfl) rfl
theorem eX5_mean_50 : ev X m_X5_mean 50 [a0, a1] [vL x] mem = some (some (vL x), mem) := ke_lreturn dX5_mean_50 rfl
theorem eX5_allHate_0 : ev X m_X5_allHate 0 [a0, a1, a2] st mem = ev X m_X5_allHate 1 [a0, a1, a2] (vI 0 :: st) mem := ke_iconst (by decide) dX5_allHate_0
theorem eX5_allHate_1 : ev X m_X5_allHate 1 [a0, a1, a2] (vI x :: st) mem = ev X m_X5_allHate 2 [a0, vI x, a2] st mem := ke_istore_n (Nat.le_of_ble_eq_true rfl) rfl dX5_allHate_1
theorem eX5_allHate_2 : ev X m_X5_allHate 2 [a0, a1, a2] st mem = ev X m_X5_allHate 3 [a0, a1, a2] (vI 0 :: st) mem := ke_iconst (by decide) dX5_allHate_2
theorem eX5_allHate_3 : ev X m_X5_allHate 3 [a0, a1, a2] (vI x :: st) mem = ev X m_X5_allHate 4 [a0, a1, vI x] st mem := ke_istore_n (Nat.le_of_ble_eq_true rfl) rfl dX5_allHate_3
theorem eX5_allHate_4 : ev X m_X5_allHate 4 [a0, a1, vI x] st mem = ev X m_X5_allHate 5 [a0, a1, vI x] (vI x :: st) mem := ke_iload_n rfl dX5_allHate_4
theorem eX5_allHate_5 : ev X m_X5_allHate 5 [a0, a1, a2] st mem = ev X m_X5_allHate 7 [a0, a1, a2] (vI 36 :: st) mem := ke_bipush (by decide) dX5_allHate_5
theorem eX5_allHate_7 : ev X m_X5_allHate 7 [a0, a1, a2] (vI y :: vI x :: st) mem = if x < y then ev X m_X5_allHate 10 [a0, a1, a2] st mem else ev X m_X5_allHate 25 [a0, a1, a2] st mem := ke_icmp_ge dX5_allHate_7 rfl
theorem eX5_allHate_10 : ev X m_X5_allHate 10 [a0, vI x, a2] st mem = ev X m_X5_allHate 11 [a0, vI x, a2] (vI x :: st) mem := ke_iload_n rfl dX5_allHate_10
theorem eX5_allHate_11 : ev X m_X5_allHate 11 [vR r, a1, a2] st mem = ev X m_X5_allHate 12 [vR r, a1, a2] (vR r :: st) mem := ke_aload_n rfl dX5_allHate_11
theorem eX5_allHate_12 : ev X m_X5_allHate 12 [a0, a1, a2] (vR r :: st) mem = evb X (fget mem r 5 5) m_X5_allHate 15 [a0, a1, a2] st mem := ke_getf rfl dX5_allHate_12
theorem eX5_allHate_15 : ev X m_X5_allHate 15 [a0, a1, vI x] st mem = ev X m_X5_allHate 16 [a0, a1, vI x] (vI x :: st) mem := ke_iload_n rfl dX5_allHate_15
theorem eX5_allHate_16 : ev X m_X5_allHate 16 [a0, a1, a2] (vI x :: vR r :: st) mem = evb X (aget mem r x) m_X5_allHate 17 [a0, a1, a2] st mem := ke_iaload dX5_allHate_16
theorem eX5_allHate_17 : ev X m_X5_allHate 17 [a0, a1, a2] (vI y :: vI x :: st) mem = ev X m_X5_allHate 18 [a0, a1, a2] (vI (w32 (x + y)) :: st) mem := ke_iadd dX5_allHate_17
theorem eX5_allHate_18 : ev X m_X5_allHate 18 [a0, a1, a2] (vI x :: st) mem = ev X m_X5_allHate 19 [a0, vI x, a2] st mem := ke_istore_n (Nat.le_of_ble_eq_true rfl) rfl dX5_allHate_18
theorem eX5_allHate_19 : ev X m_X5_allHate 19 [a0, a1, vI x] st mem = ev X m_X5_allHate 22 [a0, a1, vI (w32 (x + 1))] st mem := ke_iinc rfl (Nat.le_of_ble_eq_true rfl) rfl dX5_allHate_19
theorem eX5_allHate_22 : ev X m_X5_allHate 22 [a0, a1, a2] st mem = ev X m_X5_allHate 4 [a0, a1, a2] st mem := ke_goto dX5_allHate_22 rfl
theorem eX5_allHate_25 : ev X m_X5_allHate 25 [a0, vI x, a2] st mem = ev X m_X5_allHate 26 [a0, vI x, a2] (vI x :: st) mem := ke_iload_n rfl dX5_allHate_25
theorem eX5_allHate_26 : ev X m_X5_allHate 26 [a0, a1, a2] [vI x] mem = some (some (vI x), mem) := ke_ireturn dX5_allHate_26 rfl
theorem eX5_who_0 : ev X m_X5_who 0 [vR r, a1, a2, a3, a4] st mem = ev X m_X5_who 1 [vR r, a1, a2, a3, a4] (vR r :: st) mem := ke_aload_n rfl dX5_who_0
theorem eX5_who_1 : ev X m_X5_who 1 [a0, vI x, a2, a3, a4] st mem = ev X m_X5_who 2 [a0, vI x, a2, a3, a4] (vI x :: st) mem := ke_iload_n rfl dX5_who_1
theorem eX5_who_2 : ev X m_X5_who 2 [a0, a1, a2, a3, a4] (vI n0 :: vR r :: []) mem = evc X (gR mem r 5 (ev X m_X5_isParcel 0 [vR r, vI n0] [] mem)) m_X5_who 5 [a0, a1, a2, a3, a4] [] := ke_callV (m' := m_X5_isParcel) (as := [vI n0]) (n := 1) (rest := []) dX5_who_2 rfl rfl rfl rfl rfl rfl (Nat.le_of_ble_eq_true rfl) (Nat.le_of_ble_eq_true rfl) (Nat.le_of_ble_eq_true rfl) rfl
theorem eX5_who_5 : ev X m_X5_who 5 [a0, a1, a2, a3, a4] (vI x :: st) mem = if x = 0 then ev X m_X5_who 16 [a0, a1, a2, a3, a4] st mem else ev X m_X5_who 8 [a0, a1, a2, a3, a4] st mem := ke_if_eq dX5_who_5 rfl
theorem eX5_who_8 : ev X m_X5_who 8 [vR r, a1, a2, a3, a4] st mem = ev X m_X5_who 9 [vR r, a1, a2, a3, a4] (vR r :: st) mem := ke_aload_n rfl dX5_who_8
theorem eX5_who_9 : ev X m_X5_who 9 [a0, a1, vI x, a3, a4] st mem = ev X m_X5_who 10 [a0, a1, vI x, a3, a4] (vI x :: st) mem := ke_iload_n rfl dX5_who_9
theorem eX5_who_10 : ev X m_X5_who 10 [a0, a1, a2, a3, a4] (vI n0 :: vR r :: []) mem = evc X (gR mem r 5 (ev X m_X5_isOne 0 [vR r, vI n0] [] mem)) m_X5_who 13 [a0, a1, a2, a3, a4] [] := ke_callV (m' := m_X5_isOne) (as := [vI n0]) (n := 1) (rest := []) dX5_who_10 rfl rfl rfl rfl rfl rfl (Nat.le_of_ble_eq_true rfl) (Nat.le_of_ble_eq_true rfl) (Nat.le_of_ble_eq_true rfl) rfl
theorem eX5_who_13 : ev X m_X5_who 13 [a0, a1, a2, a3, a4] (vI x :: st) mem = if x = 0 then ev X m_X5_who 16 [a0, a1, a2, a3, a4] st mem else ev X m_X5_who 20 [a0, a1, a2, a3, a4] st mem := ke_if_ne dX5_who_13 rfl
theorem eX5_who_16 : ev X m_X5_who 16 [a0, a1, a2, a3, a4] st mem = ev X m_X5_who 17 [a0, a1, a2, a3, a4] (vI (-1) :: st) mem := ke_iconst (by decide) dX5_who_16
theorem eX5_who_17 : ev X m_X5_who 17 [a0, a1, a2, a3, a4] st mem = ev X m_X5_who 35 [a0, a1, a2, a3, a4] st mem := ke_goto dX5_who_17 rfl
theorem eX5_who_20 : ev X m_X5_who 20 [a0, a1, a2, vI x, a4] st mem = ev X m_X5_who 21 [a0, a1, a2, vI x, a4] (vI x :: st) mem := ke_iload_n rfl dX5_who_20
theorem eX5_who_21 : ev X m_X5_who 21 [a0, a1, a2, a3, a4] st mem = ev X m_X5_who 22 [a0, a1, a2, a3, a4] (vI 0 :: st) mem := ke_iconst (by decide) dX5_who_21
theorem eX5_who_22 : ev X m_X5_who 22 [a0, a1, a2, a3, a4] st mem = ev X m_X5_who 23 [a0, a1, a2, a3, a4] (vI 1 :: st) mem := ke_iconst (by decide) dX5_who_22
theorem eX5_who_23 : ev X m_X5_who 23 [a0, a1, a2, a3, a4] (vI n2 :: vI n1 :: vI n0 :: []) mem = evc X (ev X m_X5_isIn 0 [vI n0, vI n1, vI n2] [] mem) m_X5_who 26 [a0, a1, a2, a3, a4] [] := ke_callS (m' := m_X5_isIn) (as := [vI n0, vI n1, vI n2]) (n := 3) (rest := []) dX5_who_23 rfl (by decide) rfl rfl rfl rfl rfl (Nat.le_of_ble_eq_true rfl) (Nat.le_of_ble_eq_true rfl) rfl
theorem eX5_who_26 : ev X m_X5_who 26 [a0, a1, a2, a3, a4] (vI x :: st) mem = if x = 0 then ev X m_X5_who 29 [a0, a1, a2, a3, a4] st mem else ev X m_X5_who 34 [a0, a1, a2, a3, a4] st mem := ke_if_ne dX5_who_26 rfl
theorem eX5_who_29 : ev X m_X5_who 29 [a0, a1, a2, a3, a4] st mem = ev X m_X5_who 31 [a0, a1, a2, a3, a4] (vI (-2) :: st) mem := ke_bipush (by decide) dX5_who_29
theorem eX5_who_31 : ev X m_X5_who 31 [a0, a1, a2, a3, a4] st mem = ev X m_X5_who 35 [a0, a1, a2, a3, a4] st mem := ke_goto dX5_who_31 rfl
theorem eX5_who_34 : ev X m_X5_who 34 [a0, a1, a2, a3, a4] st mem = ev X m_X5_who 35 [a0, a1, a2, a3, a4] (vI 0 :: st) mem := ke_iconst (by decide) dX5_who_34
theorem eX5_who_35 : ev X m_X5_who 35 [a0, a1, a2, a3, a4] (vI x :: st) mem = ev X m_X5_who 37 [a0, a1, a2, a3, vI x] st mem := ke_istore (Nat.le_of_ble_eq_true rfl) rfl dX5_who_35
theorem eX5_who_37 : ev X m_X5_who 37 [a0, a1, a2, a3, vI x] st mem = ev X m_X5_who 39 [a0, a1, a2, a3, vI x] (vI x :: st) mem := ke_iload rfl dX5_who_37
theorem eX5_who_39 : ev X m_X5_who 39 [a0, a1, a2, a3, a4] (vI x :: st) mem = if x = 0 then ev X m_X5_who 49 [a0, a1, a2, a3, a4] st mem else ev X m_X5_who 42 [a0, a1, a2, a3, a4] st mem := ke_if_eq dX5_who_39 rfl
theorem eX5_who_42 : ev X m_X5_who 42 [vR r, a1, a2, a3, a4] st mem = ev X m_X5_who 43 [vR r, a1, a2, a3, a4] (vR r :: st) mem := ke_aload_n rfl dX5_who_42
theorem eX5_who_43 : ev X m_X5_who 43 [a0, a1, a2, a3, vI x] st mem = ev X m_X5_who 45 [a0, a1, a2, a3, vI x] (vI x :: st) mem := ke_iload rfl dX5_who_43
theorem eX5_who_45 : ev X m_X5_who 45 [a0, a1, a2, a3, a4] (vI n0 :: vR r :: []) mem = evc X (gR mem r 5 (ev X m_X5_no 0 [vR r, vI n0] [] mem)) m_X5_who 48 [a0, a1, a2, a3, a4] [] := ke_callV (m' := m_X5_no) (as := [vI n0]) (n := 1) (rest := []) dX5_who_45 rfl rfl rfl rfl rfl rfl (Nat.le_of_ble_eq_true rfl) (Nat.le_of_ble_eq_true rfl) (Nat.le_of_ble_eq_true rfl) rfl
theorem eX5_who_48 : ev X m_X5_who 48 [a0, a1, a2, a3, a4] [vI x] mem = some (some (vI x), mem) := ke_ireturn dX5_who_48 rfl
theorem eX5_who_49 : ev X m_X5_who 49 [a0, a1, a2, vI x, a4] st mem = ev X m_X5_who 50 [a0, a1, a2, vI x, a4] (vI x :: st) mem := ke_iload_n rfl dX5_who_49
theorem eX5_who_50 : ev X m_X5_who 50 [a0, a1, a2, a3, a4] (vI x :: st) mem = if x = 0 then ev X m_X5_who 53 [a0, a1, a2, a3, a4] st mem else ev X m_X5_who 68 [a0, a1, a2, a3, a4] st mem := ke_if_ne dX5_who_50 rfl
theorem eX5_who_53 : ev X m_X5_who 53 [vR r, a1, a2, a3, a4] st mem = ev X m_X5_who 54 [vR r, a1, a2, a3, a4] (vR r :: st) mem := ke_aload_n rfl dX5_who_53
theorem eX5_who_54 : ev X m_X5_who 54 [vR r, a1, a2, a3, a4] st mem = ev X m_X5_who 55 [vR r, a1, a2, a3, a4] (vR r :: st) mem := ke_aload_n rfl dX5_who_54
theorem eX5_who_55 : ev X m_X5_who 55 [a0, a1, a2, a3, a4] (vR r :: st) mem = evb X (fget mem r 5 1) m_X5_who 58 [a0, a1, a2, a3, a4] st mem := ke_getf rfl dX5_who_55
theorem eX5_who_58 : ev X m_X5_who 58 [a0, a1, vI x, a3, a4] st mem = ev X m_X5_who 59 [a0, a1, vI x, a3, a4] (vI x :: st) mem := ke_iload_n rfl dX5_who_58
theorem eX5_who_59 : ev X m_X5_who 59 [a0, a1, a2, a3, a4] st mem = ev X m_X5_who 61 [a0, a1, a2, a3, a4] (vI 6 :: st) mem := ke_bipush (by decide) dX5_who_59
theorem eX5_who_61 : ev X m_X5_who 61 [a0, vI x, a2, a3, a4] st mem = ev X m_X5_who 62 [a0, vI x, a2, a3, a4] (vI x :: st) mem := ke_iload_n rfl dX5_who_61
theorem eX5_who_62 : ev X m_X5_who 62 [a0, a1, a2, a3, a4] (vI n3 :: vI n2 :: vI n1 :: vR r0 :: vR r :: []) mem = evc X (gR mem r 5 (ev X m_X5_bitsFor 0 [vR r, vR r0, vI n1, vI n2, vI n3, vS, vS, vS] [] mem)) m_X5_who 65 [a0, a1, a2, a3, a4] [] := ke_callV (m' := m_X5_bitsFor) (as := [vR r0, vI n1, vI n2, vI n3]) (n := 4) (rest := []) dX5_who_62 rfl rfl rfl rfl rfl rfl (Nat.le_of_ble_eq_true rfl) (Nat.le_of_ble_eq_true rfl) (Nat.le_of_ble_eq_true rfl) rfl
theorem eX5_who_65 : ev X m_X5_who 65 [a0, a1, a2, a3, a4] st mem = ev X m_X5_who 80 [a0, a1, a2, a3, a4] st mem := ke_goto dX5_who_65 rfl
theorem eX5_who_68 : ev X m_X5_who 68 [vR r, a1, a2, a3, a4] st mem = ev X m_X5_who 69 [vR r, a1, a2, a3, a4] (vR r :: st) mem := ke_aload_n rfl dX5_who_68
theorem eX5_who_69 : ev X m_X5_who 69 [vR r, a1, a2, a3, a4] st mem = ev X m_X5_who 70 [vR r, a1, a2, a3, a4] (vR r :: st) mem := ke_aload_n rfl dX5_who_69
theorem eX5_who_70 : ev X m_X5_who 70 [a0, a1, a2, a3, a4] (vR r :: st) mem = evb X (fget mem r 5 2) m_X5_who 73 [a0, a1, a2, a3, a4] st mem := ke_getf rfl dX5_who_70
theorem eX5_who_73 : ev X m_X5_who 73 [a0, a1, vI x, a3, a4] st mem = ev X m_X5_who 74 [a0, a1, vI x, a3, a4] (vI x :: st) mem := ke_iload_n rfl dX5_who_73
theorem eX5_who_74 : ev X m_X5_who 74 [a0, a1, a2, a3, a4] st mem = ev X m_X5_who 76 [a0, a1, a2, a3, a4] (vI 10 :: st) mem := ke_bipush (by decide) dX5_who_74
theorem eX5_who_76 : ev X m_X5_who 76 [a0, vI x, a2, a3, a4] st mem = ev X m_X5_who 77 [a0, vI x, a2, a3, a4] (vI x :: st) mem := ke_iload_n rfl dX5_who_76
theorem eX5_who_77 : ev X m_X5_who 77 [a0, a1, a2, a3, a4] (vI n3 :: vI n2 :: vI n1 :: vR r0 :: vR r :: []) mem = evc X (gR mem r 5 (ev X m_X5_bitsFor 0 [vR r, vR r0, vI n1, vI n2, vI n3, vS, vS, vS] [] mem)) m_X5_who 80 [a0, a1, a2, a3, a4] [] := ke_callV (m' := m_X5_bitsFor) (as := [vR r0, vI n1, vI n2, vI n3]) (n := 4) (rest := []) dX5_who_77 rfl rfl rfl rfl rfl rfl (Nat.le_of_ble_eq_true rfl) (Nat.le_of_ble_eq_true rfl) (Nat.le_of_ble_eq_true rfl) rfl
theorem eX5_who_80 : ev X m_X5_who 80 [a0, a1, a2, a3, a4] [vI x] mem = some (some (vI x), mem) := ke_ireturn dX5_who_80 rfl
theorem eX5_bitsFor_0 : ev X m_X5_bitsFor 0 [a0, vR r, a2, a3, a4, a5, a6, a7] st mem = ev X m_X5_bitsFor 1 [a0, vR r, a2, a3, a4, a5, a6, a7] (vR r :: st) mem := ke_aload_n rfl dX5_bitsFor_0
theorem eX5_bitsFor_1 : ev X m_X5_bitsFor 1 [a0, a1, vI x, a3, a4, a5, a6, a7] st mem = ev X m_X5_bitsFor 2 [a0, a1, vI x, a3, a4, a5, a6, a7] (vI x :: st) mem := ke_iload_n rfl dX5_bitsFor_1
theorem eX5_bitsFor_2 : ev X m_X5_bitsFor 2 [a0, a1, a2, a3, a4, a5, a6, a7] (vI x :: vR r :: st) mem = evb X (aget mem r x) m_X5_bitsFor 3 [a0, a1, a2, a3, a4, a5, a6, a7] st mem := ke_iaload dX5_bitsFor_2
theorem eX5_bitsFor_3 : ev X m_X5_bitsFor 3 [a0, a1, a2, a3, a4, a5, a6, a7] (vI x :: st) mem = ev X m_X5_bitsFor 5 [a0, a1, a2, a3, a4, vI x, a6, a7] st mem := ke_istore (Nat.le_of_ble_eq_true rfl) rfl dX5_bitsFor_3
theorem eX5_bitsFor_5 : ev X m_X5_bitsFor 5 [a0, a1, a2, a3, a4, a5, a6, a7] st mem = ev X m_X5_bitsFor 6 [a0, a1, a2, a3, a4, a5, a6, a7] (vI 0 :: st) mem := ke_iconst (by decide) dX5_bitsFor_5
theorem eX5_bitsFor_6 : ev X m_X5_bitsFor 6 [a0, a1, a2, a3, a4, a5, a6, a7] (vI x :: st) mem = ev X m_X5_bitsFor 8 [a0, a1, a2, a3, a4, a5, vI x, a7] st mem := ke_istore (Nat.le_of_ble_eq_true rfl) rfl dX5_bitsFor_6
theorem eX5_bitsFor_8 : ev X m_X5_bitsFor 8 [a0, a1, a2, a3, a4, a5, a6, a7] st mem = ev X m_X5_bitsFor 9 [a0, a1, a2, a3, a4, a5, a6, a7] (vI 0 :: st) mem := ke_iconst (by decide) dX5_bitsFor_8
theorem eX5_bitsFor_9 : ev X m_X5_bitsFor 9 [a0, a1, a2, a3, a4, a5, a6, a7] (vI x :: st) mem = ev X m_X5_bitsFor 11 [a0, a1, a2, a3, a4, a5, a6, vI x] st mem := ke_istore (Nat.le_of_ble_eq_true rfl) rfl dX5_bitsFor_9
theorem eX5_bitsFor_11 : ev X m_X5_bitsFor 11 [a0, a1, a2, a3, a4, a5, a6, vI x] st mem = ev X m_X5_bitsFor 13 [a0, a1, a2, a3, a4, a5, a6, vI x] (vI x :: st) mem := ke_iload rfl dX5_bitsFor_11
theorem eX5_bitsFor_13 : ev X m_X5_bitsFor 13 [a0, a1, a2, vI x, a4, a5, a6, a7] st mem = ev X m_X5_bitsFor 14 [a0, a1, a2, vI x, a4, a5, a6, a7] (vI x :: st) mem := ke_iload_n rfl dX5_bitsFor_13
theorem eX5_bitsFor_14 : ev X m_X5_bitsFor 14 [a0, a1, a2, a3, a4, a5, a6, a7] (vI y :: vI x :: st) mem = if x < y then ev X m_X5_bitsFor 17 [a0, a1, a2, a3, a4, a5, a6, a7] st mem else ev X m_X5_bitsFor 50 [a0, a1, a2, a3, a4, a5, a6, a7] st mem := ke_icmp_ge dX5_bitsFor_14 rfl
theorem eX5_bitsFor_17 : ev X m_X5_bitsFor 17 [a0, vR r, a2, a3, a4, a5, a6, a7] st mem = ev X m_X5_bitsFor 18 [a0, vR r, a2, a3, a4, a5, a6, a7] (vR r :: st) mem := ke_aload_n rfl dX5_bitsFor_17
theorem eX5_bitsFor_18 : ev X m_X5_bitsFor 18 [a0, a1, vI x, a3, a4, a5, a6, a7] st mem = ev X m_X5_bitsFor 19 [a0, a1, vI x, a3, a4, a5, a6, a7] (vI x :: st) mem := ke_iload_n rfl dX5_bitsFor_18
theorem eX5_bitsFor_19 : ev X m_X5_bitsFor 19 [a0, a1, a2, a3, a4, a5, a6, vI x] st mem = ev X m_X5_bitsFor 21 [a0, a1, a2, a3, a4, a5, a6, vI x] (vI x :: st) mem := ke_iload rfl dX5_bitsFor_19
theorem eX5_bitsFor_21 : ev X m_X5_bitsFor 21 [a0, a1, a2, a3, a4, a5, a6, a7] (vI y :: vI x :: vR r :: st) mem = evm X (aput mem r x y) m_X5_bitsFor 22 [a0, a1, a2, a3, a4, a5, a6, a7] st := ke_iastore dX5_bitsFor_21
theorem eX5_bitsFor_22 : ev X m_X5_bitsFor 22 [a0, a1, a2, a3, a4, a5, vI x, a7] st mem = ev X m_X5_bitsFor 24 [a0, a1, a2, a3, a4, a5, vI x, a7] (vI x :: st) mem := ke_iload rfl dX5_bitsFor_22
theorem eX5_bitsFor_24 : ev X m_X5_bitsFor 24 [vR r, a1, a2, a3, a4, a5, a6, a7] st mem = ev X m_X5_bitsFor 25 [vR r, a1, a2, a3, a4, a5, a6, a7] (vR r :: st) mem := ke_aload_n rfl dX5_bitsFor_24
theorem eX5_bitsFor_25 : ev X m_X5_bitsFor 25 [a0, a1, a2, a3, vI x, a5, a6, a7] st mem = ev X m_X5_bitsFor 27 [a0, a1, a2, a3, vI x, a5, a6, a7] (vI x :: st) mem := ke_iload rfl dX5_bitsFor_25
theorem eX5_bitsFor_27 : ev X m_X5_bitsFor 27 [a0, a1, a2, a3, a4, a5, a6, a7] (vI n0 :: vR r :: [s0]) mem = evc X (gR mem r 5 (ev X m_X5_isSo 0 [vR r, vI n0, vS, vS] [] mem)) m_X5_bitsFor 30 [a0, a1, a2, a3, a4, a5, a6, a7] [s0] := ke_callV (m' := m_X5_isSo) (as := [vI n0]) (n := 1) (rest := [s0]) dX5_bitsFor_27 rfl rfl rfl rfl rfl rfl (Nat.le_of_ble_eq_true rfl) (Nat.le_of_ble_eq_true rfl) (Nat.le_of_ble_eq_true rfl) rfl
theorem eX5_bitsFor_30 : ev X m_X5_bitsFor 30 [a0, a1, a2, a3, a4, a5, a6, a7] (vI x :: st) mem = if x = 0 then ev X m_X5_bitsFor 40 [a0, a1, a2, a3, a4, a5, a6, a7] st mem else ev X m_X5_bitsFor 33 [a0, a1, a2, a3, a4, a5, a6, a7] st mem := ke_if_eq dX5_bitsFor_30 rfl
theorem eX5_bitsFor_33 : ev X m_X5_bitsFor 33 [a0, a1, a2, a3, a4, a5, a6, a7] st mem = ev X m_X5_bitsFor 34 [a0, a1, a2, a3, a4, a5, a6, a7] (vI 1 :: st) mem := ke_iconst (by decide) dX5_bitsFor_33
theorem eX5_bitsFor_34 : ev X m_X5_bitsFor 34 [a0, a1, a2, a3, a4, a5, a6, vI x] st mem = ev X m_X5_bitsFor 36 [a0, a1, a2, a3, a4, a5, a6, vI x] (vI x :: st) mem := ke_iload rfl dX5_bitsFor_34
theorem eX5_bitsFor_36 : ev X m_X5_bitsFor 36 [a0, a1, a2, a3, a4, a5, a6, a7] (vI y :: vI x :: st) mem = ev X m_X5_bitsFor 37 [a0, a1, a2, a3, a4, a5, a6, a7] (vI (shl32 x y) :: st) mem := ke_ishl dX5_bitsFor_36
theorem eX5_bitsFor_37 : ev X m_X5_bitsFor 37 [a0, a1, a2, a3, a4, a5, a6, a7] st mem = ev X m_X5_bitsFor 41 [a0, a1, a2, a3, a4, a5, a6, a7] st mem := ke_goto dX5_bitsFor_37 rfl
theorem eX5_bitsFor_40 : ev X m_X5_bitsFor 40 [a0, a1, a2, a3, a4, a5, a6, a7] st mem = ev X m_X5_bitsFor 41 [a0, a1, a2, a3, a4, a5, a6, a7] (vI 0 :: st) mem := ke_iconst (by decide) dX5_bitsFor_40
theorem eX5_bitsFor_41 : ev X m_X5_bitsFor 41 [a0, a1, a2, a3, a4, a5, a6, a7] (vI y :: vI x :: st) mem = ev X m_X5_bitsFor 42 [a0, a1, a2, a3, a4, a5, a6, a7] (vI (or32 x y) :: st) mem := ke_ior dX5_bitsFor_41
theorem eX5_bitsFor_42 : ev X m_X5_bitsFor 42 [a0, a1, a2, a3, a4, a5, a6, a7] (vI x :: st) mem = ev X m_X5_bitsFor 44 [a0, a1, a2, a3, a4, a5, vI x, a7] st mem := ke_istore (Nat.le_of_ble_eq_true rfl) rfl dX5_bitsFor_42
theorem eX5_bitsFor_44 : ev X m_X5_bitsFor 44 [a0, a1, a2, a3, a4, a5, a6, vI x] st mem = ev X m_X5_bitsFor 47 [a0, a1, a2, a3, a4, a5, a6, vI (w32 (x + 1))] st mem := ke_iinc rfl (Nat.le_of_ble_eq_true rfl) rfl dX5_bitsFor_44
theorem eX5_bitsFor_47 : ev X m_X5_bitsFor 47 [a0, a1, a2, a3, a4, a5, a6, a7] st mem = ev X m_X5_bitsFor 11 [a0, a1, a2, a3, a4, a5, a6, a7] st mem := ke_goto dX5_bitsFor_47 rfl
theorem eX5_bitsFor_50 : ev X m_X5_bitsFor 50 [a0, vR r, a2, a3, a4, a5, a6, a7] st mem = ev X m_X5_bitsFor 51 [a0, vR r, a2, a3, a4, a5, a6, a7] (vR r :: st) mem := ke_aload_n rfl dX5_bitsFor_50
theorem eX5_bitsFor_51 : ev X m_X5_bitsFor 51 [a0, a1, vI x, a3, a4, a5, a6, a7] st mem = ev X m_X5_bitsFor 52 [a0, a1, vI x, a3, a4, a5, a6, a7] (vI x :: st) mem := ke_iload_n rfl dX5_bitsFor_51
theorem eX5_bitsFor_52 : ev X m_X5_bitsFor 52 [a0, a1, a2, a3, a4, vI x, a6, a7] st mem = ev X m_X5_bitsFor 54 [a0, a1, a2, a3, a4, vI x, a6, a7] (vI x :: st) mem := ke_iload rfl dX5_bitsFor_52
theorem eX5_bitsFor_54 : ev X m_X5_bitsFor 54 [a0, a1, a2, a3, a4, a5, a6, a7] (vI y :: vI x :: vR r :: st) mem = evm X (aput mem r x y) m_X5_bitsFor 55 [a0, a1, a2, a3, a4, a5, a6, a7] st := ke_iastore dX5_bitsFor_54
theorem eX5_bitsFor_55 : ev X m_X5_bitsFor 55 [a0, a1, a2, a3, a4, a5, vI x, a7] st mem = ev X m_X5_bitsFor 57 [a0, a1, a2, a3, a4, a5, vI x, a7] (vI x :: st) mem := ke_iload rfl dX5_bitsFor_55
theorem eX5_bitsFor_57 : ev X m_X5_bitsFor 57 [a0, a1, a2, a3, a4, a5, a6, a7] [vI x] mem = some (some (vI x), mem) := ke_ireturn dX5_bitsFor_57 rfl
theorem eX5_isSo_0 : ev X m_X5_isSo 0 [vR r, a1, a2, a3] st mem = ev X m_X5_isSo 1 [vR r, a1, a2, a3] (vR r :: st) mem := ke_aload_n rfl dX5_isSo_0
theorem eX5_isSo_1 : ev X m_X5_isSo 1 [a0, a1, a2, a3] (vR r :: []) mem = evc X (gR mem r 5 (ev X m_X5_thinks 0 [vR r] [] mem)) m_X5_isSo 4 [a0, a1, a2, a3] [] := ke_callV (m' := m_X5_thinks) (as := []) (n := 0) (rest := []) dX5_isSo_1 rfl rfl rfl rfl rfl rfl (Nat.le_of_ble_eq_true rfl) (Nat.le_of_ble_eq_true rfl) (Nat.le_of_ble_eq_true rfl) rfl
theorem eX5_isSo_4 : ev X m_X5_isSo 4 [a0, a1, a2, a3] st mem = ev X m_X5_isSo 5 [a0, a1, a2, a3] (vI 1 :: st) mem := ke_iconst (by decide) dX5_isSo_4
theorem eX5_isSo_5 : ev X m_X5_isSo 5 [a0, a1, a2, a3] (vI x :: st) mem = ev X m_X5_isSo 6 [a0, a1, vI x, a3] st mem := ke_istore_n (Nat.le_of_ble_eq_true rfl) rfl dX5_isSo_5
theorem eX5_isSo_6 : ev X m_X5_isSo 6 [a0, a1, a2, a3] st mem = ev X m_X5_isSo 7 [a0, a1, a2, a3] (vI 0 :: st) mem := ke_iconst (by decide) dX5_isSo_6
theorem eX5_isSo_7 : ev X m_X5_isSo 7 [a0, a1, a2, a3] (vI x :: st) mem = ev X m_X5_isSo 8 [a0, a1, a2, vI x] st mem := ke_istore_n (Nat.le_of_ble_eq_true rfl) rfl dX5_isSo_7
theorem eX5_isSo_8 : ev X m_X5_isSo 8 [a0, a1, a2, vI x] st mem = ev X m_X5_isSo 9 [a0, a1, a2, vI x] (vI x :: st) mem := ke_iload_n rfl dX5_isSo_8
theorem eX5_isSo_9 : ev X m_X5_isSo 9 [vR r, a1, a2, a3] st mem = ev X m_X5_isSo 10 [vR r, a1, a2, a3] (vR r :: st) mem := ke_aload_n rfl dX5_isSo_9
theorem eX5_isSo_10 : ev X m_X5_isSo 10 [a0, a1, a2, a3] (vR r :: st) mem = evb X (fget mem r 5 27) m_X5_isSo 13 [a0, a1, a2, a3] st mem := ke_getf rfl dX5_isSo_10
theorem eX5_isSo_13 : ev X m_X5_isSo 13 [a0, a1, a2, a3] (vI y :: vI x :: st) mem = if x < y then ev X m_X5_isSo 16 [a0, a1, a2, a3] st mem else ev X m_X5_isSo 66 [a0, a1, a2, a3] st mem := ke_icmp_ge dX5_isSo_13 rfl
theorem eX5_isSo_16 : ev X m_X5_isSo 16 [a0, a1, vI x, a3] st mem = ev X m_X5_isSo 17 [a0, a1, vI x, a3] (vI x :: st) mem := ke_iload_n rfl dX5_isSo_16
theorem eX5_isSo_17 : ev X m_X5_isSo 17 [a0, a1, a2, a3] (vI x :: st) mem = if x = 0 then ev X m_X5_isSo 66 [a0, a1, a2, a3] st mem else ev X m_X5_isSo 20 [a0, a1, a2, a3] st mem := ke_if_eq dX5_isSo_17 rfl
theorem eX5_isSo_20 : ev X m_X5_isSo 20 [vR r, a1, a2, a3] st mem = ev X m_X5_isSo 21 [vR r, a1, a2, a3] (vR r :: st) mem := ke_aload_n rfl dX5_isSo_20
theorem eX5_isSo_21 : ev X m_X5_isSo 21 [a0, a1, a2, a3] (vR r :: st) mem = evb X (fget mem r 5 10) m_X5_isSo 24 [a0, a1, a2, a3] st mem := ke_getf rfl dX5_isSo_21
theorem eX5_isSo_24 : ev X m_X5_isSo 24 [a0, vI x, a2, a3] st mem = ev X m_X5_isSo 25 [a0, vI x, a2, a3] (vI x :: st) mem := ke_iload_n rfl dX5_isSo_24
theorem eX5_isSo_25 : ev X m_X5_isSo 25 [a0, a1, a2, a3] (vI x :: vR r :: st) mem = evb X (aget mem r x) m_X5_isSo 26 [a0, a1, a2, a3] st mem := ke_iaload dX5_isSo_25
theorem eX5_isSo_26 : ev X m_X5_isSo 26 [a0, a1, a2, a3] (vI x :: st) mem = if x < 0 then ev X m_X5_isSo 29 [a0, a1, a2, a3] st mem else ev X m_X5_isSo 34 [a0, a1, a2, a3] st mem := ke_if_ge dX5_isSo_26 rfl
theorem eX5_isSo_29 : ev X m_X5_isSo 29 [a0, a1, a2, a3] st mem = ev X m_X5_isSo 31 [a0, a1, a2, a3] (vI 9 :: st) mem := ke_bipush (by decide) dX5_isSo_29
theorem eX5_isSo_31 : ev X m_X5_isSo 31 [a0, a1, a2, a3] st mem = ev X m_X5_isSo 40 [a0, a1, a2, a3] st mem := ke_goto dX5_isSo_31 rfl
theorem eX5_isSo_34 : ev X m_X5_isSo 34 [vR r, a1, a2, a3] st mem = ev X m_X5_isSo 35 [vR r, a1, a2, a3] (vR r :: st) mem := ke_aload_n rfl dX5_isSo_34
theorem eX5_isSo_35 : ev X m_X5_isSo 35 [a0, a1, a2, a3] (vR r :: st) mem = evb X (fget mem r 5 10) m_X5_isSo 38 [a0, a1, a2, a3] st mem := ke_getf rfl dX5_isSo_35
theorem eX5_isSo_38 : ev X m_X5_isSo 38 [a0, vI x, a2, a3] st mem = ev X m_X5_isSo 39 [a0, vI x, a2, a3] (vI x :: st) mem := ke_iload_n rfl dX5_isSo_38
theorem eX5_isSo_39 : ev X m_X5_isSo 39 [a0, a1, a2, a3] (vI x :: vR r :: st) mem = evb X (aget mem r x) m_X5_isSo 40 [a0, a1, a2, a3] st mem := ke_iaload dX5_isSo_39
theorem eX5_isSo_40 : ev X m_X5_isSo 40 [vR r, a1, a2, a3] st mem = ev X m_X5_isSo 41 [vR r, a1, a2, a3] (vR r :: st) mem := ke_aload_n rfl dX5_isSo_40
theorem eX5_isSo_41 : ev X m_X5_isSo 41 [a0, a1, a2, a3] (vR r :: st) mem = evb X (fget mem r 5 26) m_X5_isSo 44 [a0, a1, a2, a3] st mem := ke_getf rfl dX5_isSo_41
theorem eX5_isSo_44 : ev X m_X5_isSo 44 [a0, a1, a2, vI x] st mem = ev X m_X5_isSo 45 [a0, a1, a2, vI x] (vI x :: st) mem := ke_iload_n rfl dX5_isSo_44
theorem eX5_isSo_45 : ev X m_X5_isSo 45 [a0, a1, a2, a3] (vI x :: vR r :: st) mem = evb X (aget mem r x) m_X5_isSo 46 [a0, a1, a2, a3] st mem := ke_iaload dX5_isSo_45
theorem eX5_isSo_46 : ev X m_X5_isSo 46 [a0, a1, a2, a3] (vI y :: vI x :: st) mem = if x = y then ev X m_X5_isSo 49 [a0, a1, a2, a3] st mem else ev X m_X5_isSo 53 [a0, a1, a2, a3] st mem := ke_icmp_ne dX5_isSo_46 rfl
theorem eX5_isSo_49 : ev X m_X5_isSo 49 [a0, a1, a2, a3] st mem = ev X m_X5_isSo 50 [a0, a1, a2, a3] (vI 1 :: st) mem := ke_iconst (by decide) dX5_isSo_49
theorem eX5_isSo_50 : ev X m_X5_isSo 50 [a0, a1, a2, a3] st mem = ev X m_X5_isSo 54 [a0, a1, a2, a3] st mem := ke_goto dX5_isSo_50 rfl
theorem eX5_isSo_53 : ev X m_X5_isSo 53 [a0, a1, a2, a3] st mem = ev X m_X5_isSo 54 [a0, a1, a2, a3] (vI 0 :: st) mem := ke_iconst (by decide) dX5_isSo_53
theorem eX5_isSo_54 : ev X m_X5_isSo 54 [a0, a1, a2, a3] (vI x :: st) mem = ev X m_X5_isSo 55 [a0, a1, vI x, a3] st mem := ke_istore_n (Nat.le_of_ble_eq_true rfl) rfl dX5_isSo_54
theorem eX5_isSo_55 : ev X m_X5_isSo 55 [vR r, a1, a2, a3] st mem = ev X m_X5_isSo 56 [vR r, a1, a2, a3] (vR r :: st) mem := ke_aload_n rfl dX5_isSo_55
theorem eX5_isSo_56 : ev X m_X5_isSo 56 [a0, a1, a2, a3] st mem = ev X m_X5_isSo 57 [a0, a1, a2, a3] (vI 0 :: st) mem := ke_iconst (by decide) dX5_isSo_56
theorem eX5_isSo_57 : ev X m_X5_isSo 57 [a0, a1, a2, a3] (vI n0 :: vR r :: []) mem = evc X (gR mem r 5 (ev X m_X5_goesDay 0 [vR r, vI n0, vS] [] mem)) m_X5_isSo 60 [a0, a1, a2, a3] [] := ke_callV (m' := m_X5_goesDay) (as := [vI n0]) (n := 1) (rest := []) dX5_isSo_57 rfl rfl rfl rfl rfl rfl (Nat.le_of_ble_eq_true rfl) (Nat.le_of_ble_eq_true rfl) (Nat.le_of_ble_eq_true rfl) rfl
theorem eX5_isSo_60 : ev X m_X5_isSo 60 [a0, a1, a2, vI x] st mem = ev X m_X5_isSo 63 [a0, a1, a2, vI (w32 (x + 1))] st mem := ke_iinc rfl (Nat.le_of_ble_eq_true rfl) rfl dX5_isSo_60
theorem eX5_isSo_63 : ev X m_X5_isSo 63 [a0, a1, a2, a3] st mem = ev X m_X5_isSo 8 [a0, a1, a2, a3] st mem := ke_goto dX5_isSo_63 rfl
theorem eX5_isSo_66 : ev X m_X5_isSo 66 [vR r, a1, a2, a3] st mem = ev X m_X5_isSo 67 [vR r, a1, a2, a3] (vR r :: st) mem := ke_aload_n rfl dX5_isSo_66
theorem eX5_isSo_67 : ev X m_X5_isSo 67 [a0, a1, a2, a3] (vR r :: []) mem = evc X (gR mem r 5 (ev X m_X5_forgets 0 [vR r] [] mem)) m_X5_isSo 70 [a0, a1, a2, a3] [] := ke_callV (m' := m_X5_forgets) (as := []) (n := 0) (rest := []) dX5_isSo_67 rfl rfl rfl rfl rfl rfl (Nat.le_of_ble_eq_true rfl) (Nat.le_of_ble_eq_true rfl) (Nat.le_of_ble_eq_true rfl) rfl
theorem eX5_isSo_70 : ev X m_X5_isSo 70 [a0, a1, vI x, a3] st mem = ev X m_X5_isSo 71 [a0, a1, vI x, a3] (vI x :: st) mem := ke_iload_n rfl dX5_isSo_70
theorem eX5_isSo_71a : ev X m_X5_isSo 71 [a0, a1, a2, a3] [vI 1] mem = some (some (vI 1), mem) := ke_zreturn dX5_isSo_71 rfl rfl
theorem eX5_isSo_71b : ev X m_X5_isSo 71 [a0, a1, a2, a3] [vI 0] mem = some (some (vI 0), mem) := ke_zreturn dX5_isSo_71 rfl rfl
theorem eX5_isSo_71c {c : Prop} [Decidable c] : ev X m_X5_isSo 71 [a0, a1, a2, a3] [vI (if c then 1 else 0)] mem = some (some (vI (if c then 1 else 0)), mem) := ke_zreturn dX5_isSo_71 rfl (by split <;> rfl)
theorem eX5_row_0 : ev X m_X5_row 0 [a0, vI x, a2] st mem = ev X m_X5_row 1 [a0, vI x, a2] (vI x :: st) mem := ke_iload_n rfl dX5_row_0
theorem eX5_row_1 : ev X m_X5_row 1 [a0, a1, a2] st mem = ev X m_X5_row 2 [a0, a1, a2] (vI 0 :: st) mem := ke_iconst (by decide) dX5_row_1
theorem eX5_row_2 : ev X m_X5_row 2 [a0, a1, a2] st mem = ev X m_X5_row 4 [a0, a1, a2] (vI 99 :: st) mem := ke_bipush (by decide) dX5_row_2
theorem eX5_row_4 : ev X m_X5_row 4 [a0, a1, a2] (vI n2 :: vI n1 :: vI n0 :: []) mem = evc X (ev X m_X5_bound 0 [vI n0, vI n1, vI n2] [] mem) m_X5_row 7 [a0, a1, a2] [] := ke_callS (m' := m_X5_bound) (as := [vI n0, vI n1, vI n2]) (n := 3) (rest := []) dX5_row_4 rfl (by decide) rfl rfl rfl rfl rfl (Nat.le_of_ble_eq_true rfl) (Nat.le_of_ble_eq_true rfl) rfl
theorem eX5_row_7 : ev X m_X5_row 7 [a0, a1, a2] (vI x :: st) mem = ev X m_X5_row 8 [a0, a1, vI x] st mem := ke_istore_n (Nat.le_of_ble_eq_true rfl) rfl dX5_row_7
theorem eX5_row_8 : ev X m_X5_row 8 [a0, a1, vI x] st mem = ev X m_X5_row 9 [a0, a1, vI x] (vI x :: st) mem := ke_iload_n rfl dX5_row_8
theorem eX5_row_9 : ev X m_X5_row 9 [a0, a1, a2] (vI x :: st) mem = if x = 0 then ev X m_X5_row 12 [a0, a1, a2] st mem else ev X m_X5_row 24 [a0, a1, a2] st mem := ke_if_ne dX5_row_9 rfl
theorem eX5_row_12 : ev X m_X5_row 12 [vR r, a1, a2] st mem = ev X m_X5_row 13 [vR r, a1, a2] (vR r :: st) mem := ke_aload_n rfl dX5_row_12
theorem eX5_row_13 : ev X m_X5_row 13 [a0, a1, a2] (vR r :: st) mem = evb X (fget mem r 5 27) m_X5_row 16 [a0, a1, a2] st mem := ke_getf rfl dX5_row_13
theorem eX5_row_16 : ev X m_X5_row 16 [a0, a1, a2] st mem = ev X m_X5_row 18 [a0, a1, a2] (vI 16 :: st) mem := ke_bipush (by decide) dX5_row_16
theorem eX5_row_18 : ev X m_X5_row 18 [a0, a1, a2] (vI y :: vI x :: st) mem = if x = y then ev X m_X5_row 21 [a0, a1, a2] st mem else ev X m_X5_row 24 [a0, a1, a2] st mem := ke_icmp_ne dX5_row_18 rfl
theorem eX5_row_21 : ev X m_X5_row 21 [a0, a1, a2] st mem = ev X m_X5_row 23 [a0, a1, a2] (vI (-6) :: st) mem := ke_bipush (by decide) dX5_row_21
theorem eX5_row_23 : ev X m_X5_row 23 [a0, a1, a2] (vI x :: st) mem = ev X m_X5_row 24 [a0, a1, vI x] st mem := ke_istore_n (Nat.le_of_ble_eq_true rfl) rfl dX5_row_23
theorem eX5_row_24 : ev X m_X5_row 24 [a0, a1, vI x] st mem = ev X m_X5_row 25 [a0, a1, vI x] (vI x :: st) mem := ke_iload_n rfl dX5_row_24
theorem eX5_row_25 : ev X m_X5_row 25 [a0, a1, a2] (vI x :: st) mem = if x = 0 then ev X m_X5_row 34 [a0, a1, a2] st mem else ev X m_X5_row 28 [a0, a1, a2] st mem := ke_if_eq dX5_row_25 rfl
theorem eX5_row_28 : ev X m_X5_row 28 [vR r, a1, a2] st mem = ev X m_X5_row 29 [vR r, a1, a2] (vR r :: st) mem := ke_aload_n rfl dX5_row_28
theorem eX5_row_29 : ev X m_X5_row 29 [a0, a1, vI x] st mem = ev X m_X5_row 30 [a0, a1, vI x] (vI x :: st) mem := ke_iload_n rfl dX5_row_29
theorem eX5_row_30 : ev X m_X5_row 30 [a0, a1, a2] (vI n0 :: vR r :: []) mem = evc X (gR mem r 5 (ev X m_X5_no 0 [vR r, vI n0] [] mem)) m_X5_row 33 [a0, a1, a2] [] := ke_callV (m' := m_X5_no) (as := [vI n0]) (n := 1) (rest := []) dX5_row_30 rfl rfl rfl rfl rfl rfl (Nat.le_of_ble_eq_true rfl) (Nat.le_of_ble_eq_true rfl) (Nat.le_of_ble_eq_true rfl) rfl
theorem eX5_row_33 : ev X m_X5_row 33 [a0, a1, a2] [vI x] mem = some (some (vI x), mem) := ke_ireturn dX5_row_33 rfl
theorem eX5_row_34 : ev X m_X5_row 34 [vR r, a1, a2] st mem = ev X m_X5_row 35 [vR r, a1, a2] (vR r :: st) mem := ke_aload_n rfl dX5_row_34
theorem eX5_row_35 : ev X m_X5_row 35 [a0, a1, a2] (vR r :: st) mem = evb X (fget mem r 5 26) m_X5_row 38 [a0, a1, a2] st mem := ke_getf rfl dX5_row_35
theorem eX5_row_38 : ev X m_X5_row 38 [vR r, a1, a2] st mem = ev X m_X5_row 39 [vR r, a1, a2] (vR r :: st) mem := ke_aload_n rfl dX5_row_38
theorem eX5_row_39 : ev X m_X5_row 39 [a0, a1, a2] (vR r :: st) mem = evb X (fget mem r 5 27) m_X5_row 42 [a0, a1, a2] st mem := ke_getf rfl dX5_row_39
theorem eX5_row_42 : ev X m_X5_row 42 [a0, vI x, a2] st mem = ev X m_X5_row 43 [a0, vI x, a2] (vI x :: st) mem := ke_iload_n rfl dX5_row_42
theorem eX5_row_43 : ev X m_X5_row 43 [a0, a1, a2] (vI y :: vI x :: vR r :: st) mem = evm X (aput mem r x y) m_X5_row 44 [a0, a1, a2] st := ke_iastore dX5_row_43
theorem eX5_row_44 : ev X m_X5_row 44 [vR r, a1, a2] st mem = ev X m_X5_row 45 [vR r, a1, a2] (vR r :: st) mem := ke_aload_n rfl dX5_row_44
theorem eX5_row_45 : ev X m_X5_row 45 [a0, a1, a2] (vI x :: st) mem = ev X m_X5_row 46 [a0, a1, a2] (vI x :: vI x :: st) mem := ke_dupI dX5_row_45
theorem eX5_row_45r : ev X m_X5_row 45 [a0, a1, a2] (vR r :: st) mem = ev X m_X5_row 46 [a0, a1, a2] (vR r :: vR r :: st) mem := ke_dupR dX5_row_45
theorem eX5_row_46 : ev X m_X5_row 46 [a0, a1, a2] (vR r :: st) mem = evb X (fget mem r 5 27) m_X5_row 49 [a0, a1, a2] st mem := ke_getf rfl dX5_row_46
theorem eX5_row_49 : ev X m_X5_row 49 [a0, a1, a2] st mem = ev X m_X5_row 50 [a0, a1, a2] (vI 1 :: st) mem := ke_iconst (by decide) dX5_row_49
theorem eX5_row_50 : ev X m_X5_row 50 [a0, a1, a2] (vI y :: vI x :: st) mem = ev X m_X5_row 51 [a0, a1, a2] (vI (w32 (x + y)) :: st) mem := ke_iadd dX5_row_50
theorem eX5_row_51 : ev X m_X5_row 51 [a0, a1, a2] (vI x :: vR r :: st) mem = evm X (fput mem r 5 27 (vI x)) m_X5_row 54 [a0, a1, a2] st := ke_putf rfl (by decide +kernel) dX5_row_51
theorem eX5_row_54 : ev X m_X5_row 54 [vR r, a1, a2] st mem = ev X m_X5_row 55 [vR r, a1, a2] (vR r :: st) mem := ke_aload_n rfl dX5_row_54
theorem eX5_row_55 : ev X m_X5_row 55 [a0, a1, a2] (vR r :: st) mem = evb X (fget mem r 5 27) m_X5_row 58 [a0, a1, a2] st mem := ke_getf rfl dX5_row_55
theorem eX5_row_58 : ev X m_X5_row 58 [a0, a1, a2] [vI x] mem = some (some (vI x), mem) := ke_ireturn dX5_row_58 rfl
theorem eX5_judge_0 : ev X m_X5_judge 0 [vR r, a1, a2] st mem = ev X m_X5_judge 1 [vR r, a1, a2] (vR r :: st) mem := ke_aload_n rfl dX5_judge_0
theorem eX5_judge_1 : ev X m_X5_judge 1 [a0, a1, a2] (vR r :: st) mem = evb X (fget mem r 5 27) m_X5_judge 4 [a0, a1, a2] st mem := ke_getf rfl dX5_judge_1
theorem eX5_judge_4 : ev X m_X5_judge 4 [a0, a1, a2] (vI x :: st) mem = ev X m_X5_judge 5 [a0, vI x, a2] st mem := ke_istore_n (Nat.le_of_ble_eq_true rfl) rfl dX5_judge_4
theorem eX5_judge_5 : ev X m_X5_judge 5 [vR r, a1, a2] st mem = ev X m_X5_judge 6 [vR r, a1, a2] (vR r :: st) mem := ke_aload_n rfl dX5_judge_5
theorem eX5_judge_6 : ev X m_X5_judge 6 [a0, a1, a2] st mem = ev X m_X5_judge 7 [a0, a1, a2] (vI 0 :: st) mem := ke_iconst (by decide) dX5_judge_6
theorem eX5_judge_7 : ev X m_X5_judge 7 [a0, a1, a2] (vI x :: vR r :: st) mem = evm X (fput mem r 5 27 (vI x)) m_X5_judge 10 [a0, a1, a2] st := ke_putf rfl (by decide +kernel) dX5_judge_7
theorem eX5_judge_10 : ev X m_X5_judge 10 [a0, a1, a2] st mem = ev X m_X5_judge 11 [a0, a1, a2] (vI 0 :: st) mem := ke_iconst (by decide) dX5_judge_10
theorem eX5_judge_11 : ev X m_X5_judge 11 [a0, a1, a2] (vI x :: st) mem = ev X m_X5_judge 12 [a0, a1, vI x] st mem := ke_istore_n (Nat.le_of_ble_eq_true rfl) rfl dX5_judge_11
theorem eX5_judge_12 : ev X m_X5_judge 12 [a0, a1, vI x] st mem = ev X m_X5_judge 13 [a0, a1, vI x] (vI x :: st) mem := ke_iload_n rfl dX5_judge_12
theorem eX5_judge_13 : ev X m_X5_judge 13 [a0, vI x, a2] st mem = ev X m_X5_judge 14 [a0, vI x, a2] (vI x :: st) mem := ke_iload_n rfl dX5_judge_13
theorem eX5_judge_14 : ev X m_X5_judge 14 [a0, a1, a2] (vI y :: vI x :: st) mem = if x < y then ev X m_X5_judge 17 [a0, a1, a2] st mem else ev X m_X5_judge 60 [a0, a1, a2] st mem := ke_icmp_ge dX5_judge_14 rfl
theorem eX5_judge_17 : ev X m_X5_judge 17 [a0, a1, vI x] st mem = ev X m_X5_judge 18 [a0, a1, vI x] (vI x :: st) mem := ke_iload_n rfl dX5_judge_17
theorem eX5_judge_18 : ev X m_X5_judge 18 [vR r, a1, a2] st mem = ev X m_X5_judge 19 [vR r, a1, a2] (vR r :: st) mem := ke_aload_n rfl dX5_judge_18
theorem eX5_judge_19 : ev X m_X5_judge 19 [a0, a1, a2] (vR r :: st) mem = evb X (fget mem r 5 11) m_X5_judge 22 [a0, a1, a2] st mem := ke_getf rfl dX5_judge_19
theorem eX5_judge_22 : ev X m_X5_judge 22 [a0, a1, a2] (vI y :: vI x :: st) mem = if x < y then ev X m_X5_judge 25 [a0, a1, a2] st mem else ev X m_X5_judge 52 [a0, a1, a2] st mem := ke_icmp_ge dX5_judge_22 rfl
theorem eX5_judge_25 : ev X m_X5_judge 25 [vR r, a1, a2] st mem = ev X m_X5_judge 26 [vR r, a1, a2] (vR r :: st) mem := ke_aload_n rfl dX5_judge_25
theorem eX5_judge_26 : ev X m_X5_judge 26 [a0, a1, vI x] st mem = ev X m_X5_judge 27 [a0, a1, vI x] (vI x :: st) mem := ke_iload_n rfl dX5_judge_26
theorem eX5_judge_27 : ev X m_X5_judge 27 [a0, a1, a2] (vI n0 :: vR r :: []) mem = evc X (gR mem r 5 (ev X m_X5_enemyOf 0 [vR r, vI n0] [] mem)) m_X5_judge 30 [a0, a1, a2] [] := ke_callV (m' := m_X5_enemyOf) (as := [vI n0]) (n := 1) (rest := []) dX5_judge_27 rfl rfl rfl rfl rfl rfl (Nat.le_of_ble_eq_true rfl) (Nat.le_of_ble_eq_true rfl) (Nat.le_of_ble_eq_true rfl) rfl
theorem eX5_judge_30 : ev X m_X5_judge 30 [a0, a1, a2] (vI x :: st) mem = if x < 0 then ev X m_X5_judge 33 [a0, a1, a2] st mem else ev X m_X5_judge 38 [a0, a1, a2] st mem := ke_if_ge dX5_judge_30 rfl
theorem eX5_judge_33 : ev X m_X5_judge 33 [a0, a1, a2] st mem = ev X m_X5_judge 35 [a0, a1, a2] (vI 9 :: st) mem := ke_bipush (by decide) dX5_judge_33
theorem eX5_judge_35 : ev X m_X5_judge 35 [a0, a1, a2] st mem = ev X m_X5_judge 43 [a0, a1, a2] st mem := ke_goto dX5_judge_35 rfl
theorem eX5_judge_38 : ev X m_X5_judge 38 [vR r, a1, a2] st mem = ev X m_X5_judge 39 [vR r, a1, a2] (vR r :: st) mem := ke_aload_n rfl dX5_judge_38
theorem eX5_judge_39 : ev X m_X5_judge 39 [a0, a1, vI x] st mem = ev X m_X5_judge 40 [a0, a1, vI x] (vI x :: st) mem := ke_iload_n rfl dX5_judge_39
theorem eX5_judge_40 : ev X m_X5_judge 40 [a0, a1, a2] (vI n0 :: vR r :: []) mem = evc X (gR mem r 5 (ev X m_X5_enemyOf 0 [vR r, vI n0] [] mem)) m_X5_judge 43 [a0, a1, a2] [] := ke_callV (m' := m_X5_enemyOf) (as := [vI n0]) (n := 1) (rest := []) dX5_judge_40 rfl rfl rfl rfl rfl rfl (Nat.le_of_ble_eq_true rfl) (Nat.le_of_ble_eq_true rfl) (Nat.le_of_ble_eq_true rfl) rfl
theorem eX5_judge_43 : ev X m_X5_judge 43 [vR r, a1, a2] st mem = ev X m_X5_judge 44 [vR r, a1, a2] (vR r :: st) mem := ke_aload_n rfl dX5_judge_43
theorem eX5_judge_44 : ev X m_X5_judge 44 [a0, a1, a2] (vR r :: st) mem = evb X (fget mem r 5 26) m_X5_judge 47 [a0, a1, a2] st mem := ke_getf rfl dX5_judge_44
theorem eX5_judge_47 : ev X m_X5_judge 47 [a0, a1, vI x] st mem = ev X m_X5_judge 48 [a0, a1, vI x] (vI x :: st) mem := ke_iload_n rfl dX5_judge_47
theorem eX5_judge_48 : ev X m_X5_judge 48 [a0, a1, a2] (vI x :: vR r :: st) mem = evb X (aget mem r x) m_X5_judge 49 [a0, a1, a2] st mem := ke_iaload dX5_judge_48
theorem eX5_judge_49 : ev X m_X5_judge 49 [a0, a1, a2] (vI y :: vI x :: st) mem = if x = y then ev X m_X5_judge 54 [a0, a1, a2] st mem else ev X m_X5_judge 52 [a0, a1, a2] st mem := ke_icmp_eq dX5_judge_49 rfl
theorem eX5_judge_52 : ev X m_X5_judge 52 [a0, a1, vI x] st mem = ev X m_X5_judge 53 [a0, a1, vI x] (vI x :: st) mem := ke_iload_n rfl dX5_judge_52
theorem eX5_judge_53 : ev X m_X5_judge 53 [a0, a1, a2] [vI x] mem = some (some (vI x), mem) := ke_ireturn dX5_judge_53 rfl
theorem eX5_judge_54 : ev X m_X5_judge 54 [a0, a1, vI x] st mem = ev X m_X5_judge 57 [a0, a1, vI (w32 (x + 1))] st mem := ke_iinc rfl (Nat.le_of_ble_eq_true rfl) rfl dX5_judge_54
theorem eX5_judge_57 : ev X m_X5_judge 57 [a0, a1, a2] st mem = ev X m_X5_judge 12 [a0, a1, a2] st mem := ke_goto dX5_judge_57 rfl
theorem eX5_judge_60 : ev X m_X5_judge 60 [a0, a1, a2] st mem = ev X m_X5_judge 62 [a0, a1, a2] (vI (-9) :: st) mem := ke_bipush (by decide) dX5_judge_60
theorem eX5_judge_62 : ev X m_X5_judge 62 [a0, a1, a2] [vI x] mem = some (some (vI x), mem) := ke_ireturn dX5_judge_62 rfl
theorem eX5_clear_0 : ev X m_X5_clear 0 [vR r, a1] st mem = ev X m_X5_clear 1 [vR r, a1] (vR r :: st) mem := ke_aload_n rfl dX5_clear_0
theorem eX5_clear_1 : ev X m_X5_clear 1 [a0, a1] (vR r :: st) mem = evb X (fget mem r 5 27) m_X5_clear 4 [a0, a1] st mem := ke_getf rfl dX5_clear_1
theorem eX5_clear_4 : ev X m_X5_clear 4 [a0, a1] (vI x :: st) mem = ev X m_X5_clear 5 [a0, vI x] st mem := ke_istore_n (Nat.le_of_ble_eq_true rfl) rfl dX5_clear_4
theorem eX5_clear_5 : ev X m_X5_clear 5 [vR r, a1] st mem = ev X m_X5_clear 6 [vR r, a1] (vR r :: st) mem := ke_aload_n rfl dX5_clear_5
theorem eX5_clear_6 : ev X m_X5_clear 6 [a0, a1] st mem = ev X m_X5_clear 7 [a0, a1] (vI 0 :: st) mem := ke_iconst (by decide) dX5_clear_6
theorem eX5_clear_7 : ev X m_X5_clear 7 [a0, a1] (vI x :: vR r :: st) mem = evm X (fput mem r 5 27 (vI x)) m_X5_clear 10 [a0, a1] st := ke_putf rfl (by decide +kernel) dX5_clear_7
theorem eX5_clear_10 : ev X m_X5_clear 10 [a0, vI x] st mem = ev X m_X5_clear 11 [a0, vI x] (vI x :: st) mem := ke_iload_n rfl dX5_clear_10
theorem eX5_clear_11 : ev X m_X5_clear 11 [a0, a1] [vI x] mem = some (some (vI x), mem) := ke_ireturn dX5_clear_11 rfl
theorem eX5_lots_0 : ev X m_X5_lots 0 [a0, vI x, a2, a3, a4, a5, a6, a7, a8] st mem = ev X m_X5_lots 1 [a0, vI x, a2, a3, a4, a5, a6, a7, a8] (vI x :: st) mem := ke_iload_n rfl dX5_lots_0
theorem eX5_lots_1 : ev X m_X5_lots 1 [a0, a1, a2, a3, a4, a5, a6, a7, a8] st mem = ev X m_X5_lots 2 [a0, a1, a2, a3, a4, a5, a6, a7, a8] (vI 1 :: st) mem := ke_iconst (by decide) dX5_lots_1
theorem eX5_lots_2 : ev X m_X5_lots 2 [a0, a1, a2, a3, a4, a5, a6, a7, a8] st mem = ev X m_X5_lots 4 [a0, a1, a2, a3, a4, a5, a6, a7, a8] (vI 20 :: st) mem := ke_bipush (by decide) dX5_lots_2
theorem eX5_lots_4 : ev X m_X5_lots 4 [a0, a1, a2, a3, a4, a5, a6, a7, a8] (vI n2 :: vI n1 :: vI n0 :: []) mem = evc X (ev X m_X5_bound 0 [vI n0, vI n1, vI n2] [] mem) m_X5_lots 7 [a0, a1, a2, a3, a4, a5, a6, a7, a8] [] := ke_callS (m' := m_X5_bound) (as := [vI n0, vI n1, vI n2]) (n := 3) (rest := []) dX5_lots_4 rfl (by decide) rfl rfl rfl rfl rfl (Nat.le_of_ble_eq_true rfl) (Nat.le_of_ble_eq_true rfl) rfl
theorem eX5_lots_7 : ev X m_X5_lots 7 [a0, a1, a2, a3, a4, a5, a6, a7, a8] (vI x :: st) mem = ev X m_X5_lots 9 [a0, a1, a2, a3, vI x, a5, a6, a7, a8] st mem := ke_istore (Nat.le_of_ble_eq_true rfl) rfl dX5_lots_7
theorem eX5_lots_9 : ev X m_X5_lots 9 [a0, a1, a2, a3, vI x, a5, a6, a7, a8] st mem = ev X m_X5_lots 11 [a0, a1, a2, a3, vI x, a5, a6, a7, a8] (vI x :: st) mem := ke_iload rfl dX5_lots_9
theorem eX5_lots_11 : ev X m_X5_lots 11 [a0, a1, a2, a3, a4, a5, a6, a7, a8] (vI x :: st) mem = if x = 0 then ev X m_X5_lots 14 [a0, a1, a2, a3, a4, a5, a6, a7, a8] st mem else ev X m_X5_lots 27 [a0, a1, a2, a3, a4, a5, a6, a7, a8] st mem := ke_if_ne dX5_lots_11 rfl
theorem eX5_lots_14 : ev X m_X5_lots 14 [a0, a1, a2, vI x, a4, a5, a6, a7, a8] st mem = ev X m_X5_lots 15 [a0, a1, a2, vI x, a4, a5, a6, a7, a8] (vI x :: st) mem := ke_iload_n rfl dX5_lots_14
theorem eX5_lots_15 : ev X m_X5_lots 15 [a0, a1, a2, a3, a4, a5, a6, a7, a8] st mem = ev X m_X5_lots 16 [a0, a1, a2, a3, a4, a5, a6, a7, a8] (vI 0 :: st) mem := ke_iconst (by decide) dX5_lots_15
theorem eX5_lots_16 : ev X m_X5_lots 16 [a0, a1, a2, a3, a4, a5, a6, a7, a8] st mem = ev X m_X5_lots 17 [a0, a1, a2, a3, a4, a5, a6, a7, a8] (vI 1 :: st) mem := ke_iconst (by decide) dX5_lots_16
theorem eX5_lots_17 : ev X m_X5_lots 17 [a0, a1, a2, a3, a4, a5, a6, a7, a8] (vI n2 :: vI n1 :: vI n0 :: []) mem = evc X (ev X m_X5_isIn 0 [vI n0, vI n1, vI n2] [] mem) m_X5_lots 20 [a0, a1, a2, a3, a4, a5, a6, a7, a8] [] := ke_callS (m' := m_X5_isIn) (as := [vI n0, vI n1, vI n2]) (n := 3) (rest := []) dX5_lots_17 rfl (by decide) rfl rfl rfl rfl rfl (Nat.le_of_ble_eq_true rfl) (Nat.le_of_ble_eq_true rfl) rfl
theorem eX5_lots_20 : ev X m_X5_lots 20 [a0, a1, a2, a3, a4, a5, a6, a7, a8] (vI x :: st) mem = if x = 0 then ev X m_X5_lots 23 [a0, a1, a2, a3, a4, a5, a6, a7, a8] st mem else ev X m_X5_lots 27 [a0, a1, a2, a3, a4, a5, a6, a7, a8] st mem := ke_if_ne dX5_lots_20 rfl
theorem eX5_lots_23 : ev X m_X5_lots 23 [a0, a1, a2, a3, a4, a5, a6, a7, a8] st mem = ev X m_X5_lots 25 [a0, a1, a2, a3, a4, a5, a6, a7, a8] (vI (-2) :: st) mem := ke_bipush (by decide) dX5_lots_23
theorem eX5_lots_25 : ev X m_X5_lots 25 [a0, a1, a2, a3, a4, a5, a6, a7, a8] (vI x :: st) mem = ev X m_X5_lots 27 [a0, a1, a2, a3, vI x, a5, a6, a7, a8] st mem := ke_istore (Nat.le_of_ble_eq_true rfl) rfl dX5_lots_25
theorem eX5_lots_27 : ev X m_X5_lots 27 [a0, a1, a2, a3, vI x, a5, a6, a7, a8] st mem = ev X m_X5_lots 29 [a0, a1, a2, a3, vI x, a5, a6, a7, a8] (vI x :: st) mem := ke_iload rfl dX5_lots_27
theorem eX5_lots_29 : ev X m_X5_lots 29 [a0, a1, a2, a3, a4, a5, a6, a7, a8] (vI x :: st) mem = if x = 0 then ev X m_X5_lots 39 [a0, a1, a2, a3, a4, a5, a6, a7, a8] st mem else ev X m_X5_lots 32 [a0, a1, a2, a3, a4, a5, a6, a7, a8] st mem := ke_if_eq dX5_lots_29 rfl
theorem eX5_lots_32 : ev X m_X5_lots 32 [vR r, a1, a2, a3, a4, a5, a6, a7, a8] st mem = ev X m_X5_lots 33 [vR r, a1, a2, a3, a4, a5, a6, a7, a8] (vR r :: st) mem := ke_aload_n rfl dX5_lots_32
theorem eX5_lots_33 : ev X m_X5_lots 33 [a0, a1, a2, a3, vI x, a5, a6, a7, a8] st mem = ev X m_X5_lots 35 [a0, a1, a2, a3, vI x, a5, a6, a7, a8] (vI x :: st) mem := ke_iload rfl dX5_lots_33
theorem eX5_lots_35 : ev X m_X5_lots 35 [a0, a1, a2, a3, a4, a5, a6, a7, a8] (vI n0 :: vR r :: []) mem = evc X (gR mem r 5 (ev X m_X5_no 0 [vR r, vI n0] [] mem)) m_X5_lots 38 [a0, a1, a2, a3, a4, a5, a6, a7, a8] [] := ke_callV (m' := m_X5_no) (as := [vI n0]) (n := 1) (rest := []) dX5_lots_35 rfl rfl rfl rfl rfl rfl (Nat.le_of_ble_eq_true rfl) (Nat.le_of_ble_eq_true rfl) (Nat.le_of_ble_eq_true rfl) rfl
theorem eX5_lots_38 : ev X m_X5_lots 38 [a0, a1, a2, a3, a4, a5, a6, a7, a8] [vI x] mem = some (some (vI x), mem) := ke_ireturn dX5_lots_38 rfl
theorem eX5_lots_39 : ev X m_X5_lots 39 [a0, a1, vI x, a3, a4, a5, a6, a7, a8] st mem = ev X m_X5_lots 40 [a0, a1, vI x, a3, a4, a5, a6, a7, a8] (vI x :: st) mem := ke_iload_n rfl dX5_lots_39
theorem eX5_lots_40 : ev X m_X5_lots 40 [a0, a1, a2, a3, a4, a5, a6, a7, a8] (vI x :: st) mem = ev X m_X5_lots 42 [a0, a1, a2, a3, a4, vI x, a6, a7, a8] st mem := ke_istore (Nat.le_of_ble_eq_true rfl) rfl dX5_lots_40
theorem eX5_lots_42 : ev X m_X5_lots 42 [a0, a1, a2, a3, a4, a5, a6, a7, a8] st mem = ev X m_X5_lots 43 [a0, a1, a2, a3, a4, a5, a6, a7, a8] (vI 0 :: st) mem := ke_iconst (by decide) dX5_lots_42
theorem eX5_lots_43 : ev X m_X5_lots 43 [a0, a1, a2, a3, a4, a5, a6, a7, a8] (vI x :: st) mem = ev X m_X5_lots 45 [a0, a1, a2, a3, a4, a5, vI x, a7, a8] st mem := ke_istore (Nat.le_of_ble_eq_true rfl) rfl dX5_lots_43
theorem eX5_lots_45 : ev X m_X5_lots 45 [a0, a1, a2, a3, a4, a5, a6, a7, a8] st mem = ev X m_X5_lots 46 [a0, a1, a2, a3, a4, a5, a6, a7, a8] (vI 0 :: st) mem := ke_iconst (by decide) dX5_lots_45
theorem eX5_lots_46 : ev X m_X5_lots 46 [a0, a1, a2, a3, a4, a5, a6, a7, a8] (vI x :: st) mem = ev X m_X5_lots 48 [a0, a1, a2, a3, a4, a5, a6, vI x, a8] st mem := ke_istore (Nat.le_of_ble_eq_true rfl) rfl dX5_lots_46
theorem eX5_lots_48 : ev X m_X5_lots 48 [a0, a1, a2, a3, a4, a5, a6, vI x, a8] st mem = ev X m_X5_lots 50 [a0, a1, a2, a3, a4, a5, a6, vI x, a8] (vI x :: st) mem := ke_iload rfl dX5_lots_48
theorem eX5_lots_50 : ev X m_X5_lots 50 [a0, vI x, a2, a3, a4, a5, a6, a7, a8] st mem = ev X m_X5_lots 51 [a0, vI x, a2, a3, a4, a5, a6, a7, a8] (vI x :: st) mem := ke_iload_n rfl dX5_lots_50
theorem eX5_lots_51 : ev X m_X5_lots 51 [a0, a1, a2, a3, a4, a5, a6, a7, a8] (vI y :: vI x :: st) mem = if x < y then ev X m_X5_lots 54 [a0, a1, a2, a3, a4, a5, a6, a7, a8] st mem else ev X m_X5_lots 166 [a0, a1, a2, a3, a4, a5, a6, a7, a8] st mem := ke_icmp_ge dX5_lots_51 rfl
theorem eX5_lots_54 : ev X m_X5_lots 54 [vR r, a1, a2, a3, a4, a5, a6, a7, a8] st mem = ev X m_X5_lots 55 [vR r, a1, a2, a3, a4, a5, a6, a7, a8] (vR r :: st) mem := ke_aload_n rfl dX5_lots_54
theorem eX5_lots_55 : ev X m_X5_lots 55 [a0, a1, a2, a3, a4, a5, a6, a7, a8] (vR r :: []) mem = evc X (gR mem r 5 (ev X m_X5_thinks 0 [vR r] [] mem)) m_X5_lots 58 [a0, a1, a2, a3, a4, a5, a6, a7, a8] [] := ke_callV (m' := m_X5_thinks) (as := []) (n := 0) (rest := []) dX5_lots_55 rfl rfl rfl rfl rfl rfl (Nat.le_of_ble_eq_true rfl) (Nat.le_of_ble_eq_true rfl) (Nat.le_of_ble_eq_true rfl) rfl
theorem eX5_lots_58 : ev X m_X5_lots 58 [a0, a1, a2, a3, a4, a5, a6, a7, a8] st mem = ev X m_X5_lots 59 [a0, a1, a2, a3, a4, a5, a6, a7, a8] (vI 0 :: st) mem := ke_iconst (by decide) dX5_lots_58
theorem eX5_lots_59 : ev X m_X5_lots 59 [a0, a1, a2, a3, a4, a5, a6, a7, a8] (vI x :: st) mem = ev X m_X5_lots 61 [a0, a1, a2, a3, a4, a5, a6, a7, vI x] st mem := ke_istore (Nat.le_of_ble_eq_true rfl) rfl dX5_lots_59
theorem eX5_lots_61 : ev X m_X5_lots 61 [a0, a1, a2, a3, a4, a5, a6, a7, vI x] st mem = ev X m_X5_lots 63 [a0, a1, a2, a3, a4, a5, a6, a7, vI x] (vI x :: st) mem := ke_iload rfl dX5_lots_61
theorem eX5_lots_63 : ev X m_X5_lots 63 [a0, a1, a2, a3, a4, a5, a6, a7, a8] st mem = ev X m_X5_lots 65 [a0, a1, a2, a3, a4, a5, a6, a7, a8] (vI 36 :: st) mem := ke_bipush (by decide) dX5_lots_63
theorem eX5_lots_65 : ev X m_X5_lots 65 [a0, a1, a2, a3, a4, a5, a6, a7, a8] (vI y :: vI x :: st) mem = if x < y then ev X m_X5_lots 68 [a0, a1, a2, a3, a4, a5, a6, a7, a8] st mem else ev X m_X5_lots 126 [a0, a1, a2, a3, a4, a5, a6, a7, a8] st mem := ke_icmp_ge dX5_lots_65 rfl
theorem eX5_lots_68 : ev X m_X5_lots 68 [vR r, a1, a2, a3, a4, a5, a6, a7, a8] st mem = ev X m_X5_lots 69 [vR r, a1, a2, a3, a4, a5, a6, a7, a8] (vR r :: st) mem := ke_aload_n rfl dX5_lots_68
theorem eX5_lots_69 : ev X m_X5_lots 69 [a0, a1, a2, a3, a4, a5, a6, a7, vI x] st mem = ev X m_X5_lots 71 [a0, a1, a2, a3, a4, a5, a6, a7, vI x] (vI x :: st) mem := ke_iload rfl dX5_lots_69
theorem eX5_lots_71 : ev X m_X5_lots 71 [a0, a1, a2, a3, a4, a5, a6, a7, a8] st mem = ev X m_X5_lots 73 [a0, a1, a2, a3, a4, a5, a6, a7, a8] (vI 6 :: st) mem := ke_bipush (by decide) dX5_lots_71
theorem eX5_lots_73 : ev X m_X5_lots 73 [a0, a1, a2, a3, a4, a5, a6, a7, a8] (vI y :: vI x :: st) mem = if y = 0 then none else ev X m_X5_lots 74 [a0, a1, a2, a3, a4, a5, a6, a7, a8] (vI (w32 (x.tdiv y)) :: st) mem := ke_idiv dX5_lots_73
theorem eX5_lots_74 : ev X m_X5_lots 74 [a0, a1, a2, a3, a4, a5, a6, a7, vI x] st mem = ev X m_X5_lots 76 [a0, a1, a2, a3, a4, a5, a6, a7, vI x] (vI x :: st) mem := ke_iload rfl dX5_lots_74
theorem eX5_lots_76 : ev X m_X5_lots 76 [a0, a1, a2, a3, a4, a5, a6, a7, a8] st mem = ev X m_X5_lots 78 [a0, a1, a2, a3, a4, a5, a6, a7, a8] (vI 6 :: st) mem := ke_bipush (by decide) dX5_lots_76
theorem eX5_lots_78 : ev X m_X5_lots 78 [a0, a1, a2, a3, a4, a5, a6, a7, a8] (vI y :: vI x :: st) mem = if y = 0 then none else ev X m_X5_lots 79 [a0, a1, a2, a3, a4, a5, a6, a7, a8] (vI (w32 (x.tmod y)) :: st) mem := ke_irem dX5_lots_78
theorem eX5_lots_79 : ev X m_X5_lots 79 [a0, a1, a2, a3, a4, a5, a6, a7, a8] (vI n1 :: vI n0 :: vR r :: []) mem = evc X (gR mem r 5 (ev X m_X5_areTwo 0 [vR r, vI n0, vI n1] [] mem)) m_X5_lots 82 [a0, a1, a2, a3, a4, a5, a6, a7, a8] [] := ke_callV (m' := m_X5_areTwo) (as := [vI n0, vI n1]) (n := 2) (rest := []) dX5_lots_79 rfl rfl rfl rfl rfl rfl (Nat.le_of_ble_eq_true rfl) (Nat.le_of_ble_eq_true rfl) (Nat.le_of_ble_eq_true rfl) rfl
theorem eX5_lots_82 : ev X m_X5_lots 82 [a0, a1, a2, a3, a4, a5, a6, a7, a8] (vI x :: st) mem = if x = 0 then ev X m_X5_lots 85 [a0, a1, a2, a3, a4, a5, a6, a7, a8] st mem else ev X m_X5_lots 88 [a0, a1, a2, a3, a4, a5, a6, a7, a8] st mem := ke_if_ne dX5_lots_82 rfl
theorem eX5_lots_85 : ev X m_X5_lots 85 [a0, a1, a2, a3, a4, a5, a6, a7, a8] st mem = ev X m_X5_lots 120 [a0, a1, a2, a3, a4, a5, a6, a7, a8] st mem := ke_goto dX5_lots_85 rfl
theorem eX5_lots_88 : ev X m_X5_lots 88 [a0, a1, a2, a3, a4, vI x, a6, a7, a8] st mem = ev X m_X5_lots 90 [a0, a1, a2, a3, a4, vI x, a6, a7, a8] (vI x :: st) mem := ke_iload rfl dX5_lots_88
theorem eX5_lots_90 : ev X m_X5_lots 90 [a0, a1, a2, a3, a4, a5, a6, a7, a8] st mem = ev X m_X5_lots 93 [a0, a1, a2, a3, a4, a5, a6, a7, a8] (vI 1664525 :: st) mem := ke_ldcw (n := 1664525) rfl (by decide) dX5_lots_90
theorem eX5_lots_93 : ev X m_X5_lots 93 [a0, a1, a2, a3, a4, a5, a6, a7, a8] (vI y :: vI x :: st) mem = ev X m_X5_lots 94 [a0, a1, a2, a3, a4, a5, a6, a7, a8] (vI (w32 (x * y)) :: st) mem := ke_imul dX5_lots_93
theorem eX5_lots_94 : ev X m_X5_lots 94 [a0, a1, a2, a3, a4, a5, a6, a7, a8] st mem = ev X m_X5_lots 97 [a0, a1, a2, a3, a4, a5, a6, a7, a8] (vI 1013904223 :: st) mem := ke_ldcw (n := 1013904223) rfl (by decide) dX5_lots_94
theorem eX5_lots_97 : ev X m_X5_lots 97 [a0, a1, a2, a3, a4, a5, a6, a7, a8] (vI y :: vI x :: st) mem = ev X m_X5_lots 98 [a0, a1, a2, a3, a4, a5, a6, a7, a8] (vI (w32 (x + y)) :: st) mem := ke_iadd dX5_lots_97
theorem eX5_lots_98 : ev X m_X5_lots 98 [a0, a1, a2, a3, a4, a5, a6, a7, a8] (vI x :: st) mem = ev X m_X5_lots 100 [a0, a1, a2, a3, a4, vI x, a6, a7, a8] st mem := ke_istore (Nat.le_of_ble_eq_true rfl) rfl dX5_lots_98
theorem eX5_lots_100 : ev X m_X5_lots 100 [vR r, a1, a2, a3, a4, a5, a6, a7, a8] st mem = ev X m_X5_lots 101 [vR r, a1, a2, a3, a4, a5, a6, a7, a8] (vR r :: st) mem := ke_aload_n rfl dX5_lots_100
theorem eX5_lots_101 : ev X m_X5_lots 101 [a0, a1, a2, a3, a4, a5, a6, a7, a8] (vR r :: st) mem = evb X (fget mem r 5 5) m_X5_lots 104 [a0, a1, a2, a3, a4, a5, a6, a7, a8] st mem := ke_getf rfl dX5_lots_101
theorem eX5_lots_104 : ev X m_X5_lots 104 [a0, a1, a2, a3, a4, a5, a6, a7, vI x] st mem = ev X m_X5_lots 106 [a0, a1, a2, a3, a4, a5, a6, a7, vI x] (vI x :: st) mem := ke_iload rfl dX5_lots_104
theorem eX5_lots_106 : ev X m_X5_lots 106 [a0, a1, a2, a3, a4, vI x, a6, a7, a8] st mem = ev X m_X5_lots 108 [a0, a1, a2, a3, a4, vI x, a6, a7, a8] (vI x :: st) mem := ke_iload rfl dX5_lots_106
theorem eX5_lots_108 : ev X m_X5_lots 108 [a0, a1, a2, a3, a4, a5, a6, a7, a8] st mem = ev X m_X5_lots 111 [a0, a1, a2, a3, a4, a5, a6, a7, a8] (vI 2147483647 :: st) mem := ke_ldcw (n := 2147483647) rfl (by decide) dX5_lots_108
theorem eX5_lots_111 : ev X m_X5_lots 111 [a0, a1, a2, a3, a4, a5, a6, a7, a8] (vI y :: vI x :: st) mem = ev X m_X5_lots 112 [a0, a1, a2, a3, a4, a5, a6, a7, a8] (vI (and32 x y) :: st) mem := ke_iand dX5_lots_111
theorem eX5_lots_112 : ev X m_X5_lots 112 [a0, a1, a2, a3, a4, a5, a6, a7, a8] st mem = ev X m_X5_lots 115 [a0, a1, a2, a3, a4, a5, a6, a7, a8] (vI 256 :: st) mem := ke_sipush (by decide) dX5_lots_112
theorem eX5_lots_115 : ev X m_X5_lots 115 [a0, a1, a2, a3, a4, a5, a6, a7, a8] (vI y :: vI x :: st) mem = if y = 0 then none else ev X m_X5_lots 116 [a0, a1, a2, a3, a4, a5, a6, a7, a8] (vI (w32 (x.tdiv y)) :: st) mem := ke_idiv dX5_lots_115
theorem eX5_lots_116 : ev X m_X5_lots 116 [a0, a1, a2, a3, a4, a5, a6, a7, a8] st mem = ev X m_X5_lots 118 [a0, a1, a2, a3, a4, a5, a6, a7, a8] (vI 30 :: st) mem := ke_bipush (by decide) dX5_lots_116
theorem eX5_lots_118 : ev X m_X5_lots 118 [a0, a1, a2, a3, a4, a5, a6, a7, a8] (vI y :: vI x :: st) mem = if y = 0 then none else ev X m_X5_lots 119 [a0, a1, a2, a3, a4, a5, a6, a7, a8] (vI (w32 (x.tmod y)) :: st) mem := ke_irem dX5_lots_118
theorem eX5_lots_119 : ev X m_X5_lots 119 [a0, a1, a2, a3, a4, a5, a6, a7, a8] (vI y :: vI x :: vR r :: st) mem = evm X (aput mem r x y) m_X5_lots 120 [a0, a1, a2, a3, a4, a5, a6, a7, a8] st := ke_iastore dX5_lots_119
theorem eX5_lots_120 : ev X m_X5_lots 120 [a0, a1, a2, a3, a4, a5, a6, a7, vI x] st mem = ev X m_X5_lots 123 [a0, a1, a2, a3, a4, a5, a6, a7, vI (w32 (x + 1))] st mem := ke_iinc rfl (Nat.le_of_ble_eq_true rfl) rfl dX5_lots_120
theorem eX5_lots_123 : ev X m_X5_lots 123 [a0, a1, a2, a3, a4, a5, a6, a7, a8] st mem = ev X m_X5_lots 61 [a0, a1, a2, a3, a4, a5, a6, a7, a8] st mem := ke_goto dX5_lots_123 rfl
theorem eX5_lots_126 : ev X m_X5_lots 126 [vR r, a1, a2, a3, a4, a5, a6, a7, a8] st mem = ev X m_X5_lots 127 [vR r, a1, a2, a3, a4, a5, a6, a7, a8] (vR r :: st) mem := ke_aload_n rfl dX5_lots_126
theorem eX5_lots_127 : ev X m_X5_lots 127 [a0, a1, a2, a3, a4, a5, a6, a7, a8] st mem = ev X m_X5_lots 129 [a0, a1, a2, a3, a4, a5, a6, a7, a8] (vI 15 :: st) mem := ke_bipush (by decide) dX5_lots_127
theorem eX5_lots_129 : ev X m_X5_lots 129 [a0, a1, a2, a3, a4, a5, a6, a7, a8] (vI n0 :: vR r :: []) mem = evc X (gR mem r 5 (ev X m_X5_goes 0 [vR r, vI n0, vS] [] mem)) m_X5_lots 132 [a0, a1, a2, a3, a4, a5, a6, a7, a8] [] := ke_callV (m' := m_X5_goes) (as := [vI n0]) (n := 1) (rest := []) dX5_lots_129 rfl rfl rfl rfl rfl rfl (Nat.le_of_ble_eq_true rfl) (Nat.le_of_ble_eq_true rfl) (Nat.le_of_ble_eq_true rfl) rfl
theorem eX5_lots_132 : ev X m_X5_lots 132 [a0, a1, a2, a3, a4, a5, vI x, a7, a8] st mem = ev X m_X5_lots 134 [a0, a1, a2, a3, a4, a5, vI x, a7, a8] (vI x :: st) mem := ke_iload rfl dX5_lots_132
theorem eX5_lots_134 : ev X m_X5_lots 134 [a0, a1, a2, vI x, a4, a5, a6, a7, a8] st mem = ev X m_X5_lots 135 [a0, a1, a2, vI x, a4, a5, a6, a7, a8] (vI x :: st) mem := ke_iload_n rfl dX5_lots_134
theorem eX5_lots_135 : ev X m_X5_lots 135 [a0, a1, a2, a3, a4, a5, a6, a7, a8] (vI x :: st) mem = if x = 0 then ev X m_X5_lots 138 [a0, a1, a2, a3, a4, a5, a6, a7, a8] st mem else ev X m_X5_lots 149 [a0, a1, a2, a3, a4, a5, a6, a7, a8] st mem := ke_if_ne dX5_lots_135 rfl
theorem eX5_lots_138 : ev X m_X5_lots 138 [vR r, a1, a2, a3, a4, a5, a6, a7, a8] st mem = ev X m_X5_lots 139 [vR r, a1, a2, a3, a4, a5, a6, a7, a8] (vR r :: st) mem := ke_aload_n rfl dX5_lots_138
theorem eX5_lots_139 : ev X m_X5_lots 139 [a0, a1, a2, a3, a4, a5, a6, a7, a8] st mem = ev X m_X5_lots 140 [a0, a1, a2, a3, a4, a5, a6, a7, a8] (vI 2 :: st) mem := ke_iconst (by decide) dX5_lots_139
theorem eX5_lots_140 : ev X m_X5_lots 140 [a0, a1, a2, a3, a4, a5, a6, a7, a8] (vI n0 :: vR r :: [s0]) mem = evc X (gR mem r 5 (ev X m_X5_thoseIn 0 [vR r, vI n0, vS, vS] [] mem)) m_X5_lots 143 [a0, a1, a2, a3, a4, a5, a6, a7, a8] [s0] := ke_callV (m' := m_X5_thoseIn) (as := [vI n0]) (n := 1) (rest := [s0]) dX5_lots_140 rfl rfl rfl rfl rfl rfl (Nat.le_of_ble_eq_true rfl) (Nat.le_of_ble_eq_true rfl) (Nat.le_of_ble_eq_true rfl) rfl
theorem eX5_lots_143 : ev X m_X5_lots 143 [a0, a1, a2, a3, a4, a5, a6, a7, a8] (vI n0 :: [s0]) mem = evc X (ev X m_X5_bits 0 [vI n0, vS, vS] [] mem) m_X5_lots 146 [a0, a1, a2, a3, a4, a5, a6, a7, a8] [s0] := ke_callS (m' := m_X5_bits) (as := [vI n0]) (n := 1) (rest := [s0]) dX5_lots_143 rfl (by decide) rfl rfl rfl rfl rfl (Nat.le_of_ble_eq_true rfl) (Nat.le_of_ble_eq_true rfl) rfl
theorem eX5_lots_146 : ev X m_X5_lots 146 [a0, a1, a2, a3, a4, a5, a6, a7, a8] st mem = ev X m_X5_lots 153 [a0, a1, a2, a3, a4, a5, a6, a7, a8] st mem := ke_goto dX5_lots_146 rfl
theorem eX5_lots_149 : ev X m_X5_lots 149 [vR r, a1, a2, a3, a4, a5, a6, a7, a8] st mem = ev X m_X5_lots 150 [vR r, a1, a2, a3, a4, a5, a6, a7, a8] (vR r :: st) mem := ke_aload_n rfl dX5_lots_149
theorem eX5_lots_150 : ev X m_X5_lots 150 [a0, a1, a2, a3, a4, a5, a6, a7, a8] (vR r :: [s0]) mem = evc X (gR mem r 5 (ev X m_X5_allHate 0 [vR r, vS, vS] [] mem)) m_X5_lots 153 [a0, a1, a2, a3, a4, a5, a6, a7, a8] [s0] := ke_callV (m' := m_X5_allHate) (as := []) (n := 0) (rest := [s0]) dX5_lots_150 rfl rfl rfl rfl rfl rfl (Nat.le_of_ble_eq_true rfl) (Nat.le_of_ble_eq_true rfl) (Nat.le_of_ble_eq_true rfl) rfl
theorem eX5_lots_153 : ev X m_X5_lots 153 [a0, a1, a2, a3, a4, a5, a6, a7, a8] (vI y :: vI x :: st) mem = ev X m_X5_lots 154 [a0, a1, a2, a3, a4, a5, a6, a7, a8] (vI (w32 (x + y)) :: st) mem := ke_iadd dX5_lots_153
theorem eX5_lots_154 : ev X m_X5_lots 154 [a0, a1, a2, a3, a4, a5, a6, a7, a8] (vI x :: st) mem = ev X m_X5_lots 156 [a0, a1, a2, a3, a4, a5, vI x, a7, a8] st mem := ke_istore (Nat.le_of_ble_eq_true rfl) rfl dX5_lots_154
theorem eX5_lots_156 : ev X m_X5_lots 156 [vR r, a1, a2, a3, a4, a5, a6, a7, a8] st mem = ev X m_X5_lots 157 [vR r, a1, a2, a3, a4, a5, a6, a7, a8] (vR r :: st) mem := ke_aload_n rfl dX5_lots_156
theorem eX5_lots_157 : ev X m_X5_lots 157 [a0, a1, a2, a3, a4, a5, a6, a7, a8] (vR r :: []) mem = evc X (gR mem r 5 (ev X m_X5_forgets 0 [vR r] [] mem)) m_X5_lots 160 [a0, a1, a2, a3, a4, a5, a6, a7, a8] [] := ke_callV (m' := m_X5_forgets) (as := []) (n := 0) (rest := []) dX5_lots_157 rfl rfl rfl rfl rfl rfl (Nat.le_of_ble_eq_true rfl) (Nat.le_of_ble_eq_true rfl) (Nat.le_of_ble_eq_true rfl) rfl
theorem eX5_lots_160 : ev X m_X5_lots 160 [a0, a1, a2, a3, a4, a5, a6, vI x, a8] st mem = ev X m_X5_lots 163 [a0, a1, a2, a3, a4, a5, a6, vI (w32 (x + 1)), a8] st mem := ke_iinc rfl (Nat.le_of_ble_eq_true rfl) rfl dX5_lots_160
theorem eX5_lots_163 : ev X m_X5_lots 163 [a0, a1, a2, a3, a4, a5, a6, a7, a8] st mem = ev X m_X5_lots 48 [a0, a1, a2, a3, a4, a5, a6, a7, a8] st mem := ke_goto dX5_lots_163 rfl
theorem eX5_lots_166 : ev X m_X5_lots 166 [a0, a1, a2, a3, a4, a5, vI x, a7, a8] st mem = ev X m_X5_lots 168 [a0, a1, a2, a3, a4, a5, vI x, a7, a8] (vI x :: st) mem := ke_iload rfl dX5_lots_166
theorem eX5_lots_168 : ev X m_X5_lots 168 [a0, a1, a2, a3, a4, a5, a6, a7, a8] [vI x] mem = some (some (vI x), mem) := ke_ireturn dX5_lots_168 rfl
theorem eX5_count_0 : ev X m_X5_count 0 [a0, vI x] st mem = ev X m_X5_count 1 [a0, vI x] (vI x :: st) mem := ke_iload_n rfl dX5_count_0
theorem eX5_count_1 : ev X m_X5_count 1 [a0, a1] st mem = ev X m_X5_count 3 [a0, a1] (vI 11 :: st) mem := ke_bipush (by decide) dX5_count_1
theorem eX5_count_3 : ev X m_X5_count 3 [a0, a1] st mem = ev X m_X5_count 5 [a0, a1] (vI 16 :: st) mem := ke_bipush (by decide) dX5_count_3
theorem eX5_count_5 : ev X m_X5_count 5 [a0, a1] (vI n2 :: vI n1 :: vI n0 :: []) mem = evc X (ev X m_X5_isIn 0 [vI n0, vI n1, vI n2] [] mem) m_X5_count 8 [a0, a1] [] := ke_callS (m' := m_X5_isIn) (as := [vI n0, vI n1, vI n2]) (n := 3) (rest := []) dX5_count_5 rfl (by decide) rfl rfl rfl rfl rfl (Nat.le_of_ble_eq_true rfl) (Nat.le_of_ble_eq_true rfl) rfl
theorem eX5_count_8 : ev X m_X5_count 8 [a0, a1] (vI x :: st) mem = if x = 0 then ev X m_X5_count 21 [a0, a1] st mem else ev X m_X5_count 11 [a0, a1] st mem := ke_if_eq dX5_count_8 rfl
theorem eX5_count_11 : ev X m_X5_count 11 [vR r, a1] st mem = ev X m_X5_count 12 [vR r, a1] (vR r :: st) mem := ke_aload_n rfl dX5_count_11
theorem eX5_count_12 : ev X m_X5_count 12 [a0, a1] (vR r :: st) mem = evb X (fget mem r 5 0) m_X5_count 15 [a0, a1] st mem := ke_getf rfl dX5_count_12
theorem eX5_count_15 : ev X m_X5_count 15 [a0, vI x] st mem = ev X m_X5_count 16 [a0, vI x] (vI x :: st) mem := ke_iload_n rfl dX5_count_15
theorem eX5_count_16 : ev X m_X5_count 16 [a0, a1] st mem = ev X m_X5_count 18 [a0, a1] (vI 10 :: st) mem := ke_bipush (by decide) dX5_count_16
theorem eX5_count_18 : ev X m_X5_count 18 [a0, a1] (vI y :: vI x :: st) mem = ev X m_X5_count 19 [a0, a1] (vI (w32 (x - y)) :: st) mem := ke_isub dX5_count_18
theorem eX5_count_19 : ev X m_X5_count 19 [a0, a1] (vI x :: vR r :: st) mem = evb X (aget mem r x) m_X5_count 20 [a0, a1] st mem := ke_iaload dX5_count_19
theorem eX5_count_20 : ev X m_X5_count 20 [a0, a1] [vI x] mem = some (some (vI x), mem) := ke_ireturn dX5_count_20 rfl
theorem eX5_count_21 : ev X m_X5_count 21 [a0, vI x] st mem = ev X m_X5_count 22 [a0, vI x] (vI x :: st) mem := ke_iload_n rfl dX5_count_21
theorem eX5_count_22 : ev X m_X5_count 22 [a0, a1] (vI x :: st) mem = if x = 0 then ev X m_X5_count 68 [a0, a1] st mem else if x = 1 then ev X m_X5_count 73 [a0, a1] st mem else if x = 2 then ev X m_X5_count 78 [a0, a1] st mem else if x = 3 then ev X m_X5_count 83 [a0, a1] st mem else if x = 4 then ev X m_X5_count 89 [a0, a1] st mem else if x = 5 then ev X m_X5_count 95 [a0, a1] st mem else if x = 6 then ev X m_X5_count 100 [a0, a1] st mem else if x = 7 then ev X m_X5_count 105 [a0, a1] st mem else ev X m_X5_count 110 [a0, a1] st mem := by
  by_cases h0 : x = 0
  · subst h0; rw [if_pos rfl]; exact ke_swT dX5_count_22 (by decide) (by decide) (off := 46) rfl rfl
  rw [if_neg h0]
  by_cases h1 : x = 1
  · subst h1; rw [if_pos rfl]; exact ke_swT dX5_count_22 (by decide) (by decide) (off := 51) rfl rfl
  rw [if_neg h1]
  by_cases h2 : x = 2
  · subst h2; rw [if_pos rfl]; exact ke_swT dX5_count_22 (by decide) (by decide) (off := 56) rfl rfl
  rw [if_neg h2]
  by_cases h3 : x = 3
  · subst h3; rw [if_pos rfl]; exact ke_swT dX5_count_22 (by decide) (by decide) (off := 61) rfl rfl
  rw [if_neg h3]
  by_cases h4 : x = 4
  · subst h4; rw [if_pos rfl]; exact ke_swT dX5_count_22 (by decide) (by decide) (off := 67) rfl rfl
  rw [if_neg h4]
  by_cases h5 : x = 5
  · subst h5; rw [if_pos rfl]; exact ke_swT dX5_count_22 (by decide) (by decide) (off := 73) rfl rfl
  rw [if_neg h5]
  by_cases h6 : x = 6
  · subst h6; rw [if_pos rfl]; exact ke_swT dX5_count_22 (by decide) (by decide) (off := 78) rfl rfl
  rw [if_neg h6]
  by_cases h7 : x = 7
  · subst h7; rw [if_pos rfl]; exact ke_swT dX5_count_22 (by decide) (by decide) (off := 83) rfl rfl
  rw [if_neg h7]
  exact ke_swD dX5_count_22 (by omega) rfl
theorem eX5_count_68 : ev X m_X5_count 68 [vR r, a1] st mem = ev X m_X5_count 69 [vR r, a1] (vR r :: st) mem := ke_aload_n rfl dX5_count_68
theorem eX5_count_69 : ev X m_X5_count 69 [a0, a1] (vR r :: st) mem = evb X (fget mem r 5 11) m_X5_count 72 [a0, a1] st mem := ke_getf rfl dX5_count_69
theorem eX5_count_72 : ev X m_X5_count 72 [a0, a1] [vI x] mem = some (some (vI x), mem) := ke_ireturn dX5_count_72 rfl
theorem eX5_count_73 : ev X m_X5_count 73 [vR r, a1] st mem = ev X m_X5_count 74 [vR r, a1] (vR r :: st) mem := ke_aload_n rfl dX5_count_73
theorem eX5_count_74 : ev X m_X5_count 74 [a0, a1] (vR r :: st) mem = evb X (fget mem r 5 12) m_X5_count 77 [a0, a1] st mem := ke_getf rfl dX5_count_74
theorem eX5_count_77 : ev X m_X5_count 77 [a0, a1] [vI x] mem = some (some (vI x), mem) := ke_ireturn dX5_count_77 rfl
theorem eX5_count_78 : ev X m_X5_count 78 [vR r, a1] st mem = ev X m_X5_count 79 [vR r, a1] (vR r :: st) mem := ke_aload_n rfl dX5_count_78
theorem eX5_count_79 : ev X m_X5_count 79 [a0, a1] (vR r :: st) mem = evb X (fget mem r 5 13) m_X5_count 82 [a0, a1] st mem := ke_getf rfl dX5_count_79
theorem eX5_count_82 : ev X m_X5_count 82 [a0, a1] [vI x] mem = some (some (vI x), mem) := ke_ireturn dX5_count_82 rfl
theorem eX5_count_83 : ev X m_X5_count 83 [vR r, a1] st mem = ev X m_X5_count 84 [vR r, a1] (vR r :: st) mem := ke_aload_n rfl dX5_count_83
theorem eX5_count_84 : ev X m_X5_count 84 [a0, a1] st mem = ev X m_X5_count 85 [a0, a1] (vI 0 :: st) mem := ke_iconst (by decide) dX5_count_84
theorem eX5_count_85 : ev X m_X5_count 85 [a0, a1] (vI n0 :: vR r :: []) mem = evc X (gR mem r 5 (ev X m_X5_thoseIn 0 [vR r, vI n0, vS, vS] [] mem)) m_X5_count 88 [a0, a1] [] := ke_callV (m' := m_X5_thoseIn) (as := [vI n0]) (n := 1) (rest := []) dX5_count_85 rfl rfl rfl rfl rfl rfl (Nat.le_of_ble_eq_true rfl) (Nat.le_of_ble_eq_true rfl) (Nat.le_of_ble_eq_true rfl) rfl
theorem eX5_count_88 : ev X m_X5_count 88 [a0, a1] [vI x] mem = some (some (vI x), mem) := ke_ireturn dX5_count_88 rfl
theorem eX5_count_89 : ev X m_X5_count 89 [vR r, a1] st mem = ev X m_X5_count 90 [vR r, a1] (vR r :: st) mem := ke_aload_n rfl dX5_count_89
theorem eX5_count_90 : ev X m_X5_count 90 [a0, a1] st mem = ev X m_X5_count 91 [a0, a1] (vI 2 :: st) mem := ke_iconst (by decide) dX5_count_90
theorem eX5_count_91 : ev X m_X5_count 91 [a0, a1] (vI n0 :: vR r :: []) mem = evc X (gR mem r 5 (ev X m_X5_thoseIn 0 [vR r, vI n0, vS, vS] [] mem)) m_X5_count 94 [a0, a1] [] := ke_callV (m' := m_X5_thoseIn) (as := [vI n0]) (n := 1) (rest := []) dX5_count_91 rfl rfl rfl rfl rfl rfl (Nat.le_of_ble_eq_true rfl) (Nat.le_of_ble_eq_true rfl) (Nat.le_of_ble_eq_true rfl) rfl
theorem eX5_count_94 : ev X m_X5_count 94 [a0, a1] [vI x] mem = some (some (vI x), mem) := ke_ireturn dX5_count_94 rfl
theorem eX5_count_95 : ev X m_X5_count 95 [vR r, a1] st mem = ev X m_X5_count 96 [vR r, a1] (vR r :: st) mem := ke_aload_n rfl dX5_count_95
theorem eX5_count_96 : ev X m_X5_count 96 [a0, a1] (vR r :: []) mem = evc X (gR mem r 5 (ev X m_X5_allHate 0 [vR r, vS, vS] [] mem)) m_X5_count 99 [a0, a1] [] := ke_callV (m' := m_X5_allHate) (as := []) (n := 0) (rest := []) dX5_count_96 rfl rfl rfl rfl rfl rfl (Nat.le_of_ble_eq_true rfl) (Nat.le_of_ble_eq_true rfl) (Nat.le_of_ble_eq_true rfl) rfl
theorem eX5_count_99 : ev X m_X5_count 99 [a0, a1] [vI x] mem = some (some (vI x), mem) := ke_ireturn dX5_count_99 rfl
theorem eX5_count_100 : ev X m_X5_count 100 [vR r, a1] st mem = ev X m_X5_count 101 [vR r, a1] (vR r :: st) mem := ke_aload_n rfl dX5_count_100
theorem eX5_count_101 : ev X m_X5_count 101 [a0, a1] (vR r :: st) mem = evb X (fget mem r 5 27) m_X5_count 104 [a0, a1] st mem := ke_getf rfl dX5_count_101
theorem eX5_count_104 : ev X m_X5_count 104 [a0, a1] [vI x] mem = some (some (vI x), mem) := ke_ireturn dX5_count_104 rfl
theorem eX5_count_105 : ev X m_X5_count 105 [vR r, a1] st mem = ev X m_X5_count 106 [vR r, a1] (vR r :: st) mem := ke_aload_n rfl dX5_count_105
theorem eX5_count_106 : ev X m_X5_count 106 [a0, a1] (vR r :: st) mem = evb X (fget mem r 5 18) m_X5_count 109 [a0, a1] st mem := ke_getf rfl dX5_count_106
theorem eX5_count_109 : ev X m_X5_count 109 [a0, a1] [vI x] mem = some (some (vI x), mem) := ke_ireturn dX5_count_109 rfl
theorem eX5_count_110 : ev X m_X5_count 110 [a0, a1] st mem = ev X m_X5_count 112 [a0, a1] (vI (-9) :: st) mem := ke_bipush (by decide) dX5_count_110
theorem eX5_count_112 : ev X m_X5_count 112 [a0, a1] [vI x] mem = some (some (vI x), mem) := ke_ireturn dX5_count_112 rfl
theorem eL_law_3 : ev X m_law 3 [a0, a1, a2, a3] (vI x :: st) mem = ev X m_law 4 [a0, a1, a2, a3] (vI x :: vI x :: st) mem := ke_dupI dL_law_3
theorem eL_law_3r : ev X m_law 3 [a0, a1, a2, a3] (vR r :: st) mem = ev X m_law 4 [a0, a1, a2, a3] (vR r :: vR r :: st) mem := ke_dupR dL_law_3
theorem eL_law_7 : ev X m_law 7 [a0, a1, a2, a3] (vR r :: st) mem = ev X m_law 8 [a0, vR r, a2, a3] st mem := ke_astore_n (Nat.le_of_ble_eq_true rfl) rfl dL_law_7
theorem eL_law_7x : ev X m_law 7 [a0, a1, a2, a3] (vX r :: st) mem = ev X m_law 8 [a0, vX r, a2, a3] st mem := ke_xstore_n (Nat.le_of_ble_eq_true rfl) rfl dL_law_7
theorem eL_law_11 : ev X m_law 11 [a0, a1, a2, a3] (vI x :: st) mem = ev X m_law 12 [a0, a1, a2, a3] (vI x :: vI x :: st) mem := ke_dupI dL_law_11
theorem eL_law_11r : ev X m_law 11 [a0, a1, a2, a3] (vR r :: st) mem = ev X m_law 12 [a0, a1, a2, a3] (vR r :: vR r :: st) mem := ke_dupR dL_law_11
theorem eL_law_15 : ev X m_law 15 [a0, a1, a2, a3] (vR r :: st) mem = ev X m_law 16 [a0, a1, vR r, a3] st mem := ke_astore_n (Nat.le_of_ble_eq_true rfl) rfl dL_law_15
theorem eL_law_15x : ev X m_law 15 [a0, a1, a2, a3] (vX r :: st) mem = ev X m_law 16 [a0, a1, vX r, a3] st mem := ke_xstore_n (Nat.le_of_ble_eq_true rfl) rfl dL_law_15
theorem eL_law_16 : ev X m_law 16 [a0, a1, a2, a3] st mem = ev X m_law 17 [a0, a1, a2, a3] (vI 0 :: st) mem := ke_iconst (by decide) dL_law_16
theorem eL_law_17 : ev X m_law 17 [a0, a1, a2, a3] (vI x :: st) mem = ev X m_law 18 [a0, a1, a2, vI x] st mem := ke_istore_n (Nat.le_of_ble_eq_true rfl) rfl dL_law_17
theorem eL_law_18 : ev X m_law 18 [a0, a1, a2, vI x] st mem = ev X m_law 19 [a0, a1, a2, vI x] (vI x :: st) mem := ke_iload_n rfl dL_law_18
theorem eL_law_19 : ev X m_law 19 [vR r, a1, a2, a3] st mem = ev X m_law 20 [vR r, a1, a2, a3] (vR r :: st) mem := ke_aload_n rfl dL_law_19
theorem eL_law_19x : ev X m_law 19 [vX r, a1, a2, a3] st mem = ev X m_law 20 [vX r, a1, a2, a3] (vX r :: st) mem := ke_xload_n rfl dL_law_19
theorem eL_law_20x : ev X m_law 20 [a0, a1, a2, a3] (vX r :: st) mem = evb X (xlen X r) m_law 21 [a0, a1, a2, a3] st mem := ke_xlen dL_law_20
theorem eL_law_20 : ev X m_law 20 [a0, a1, a2, a3] (vR r :: st) mem = evb X (alen mem r) m_law 21 [a0, a1, a2, a3] st mem := ke_alen dL_law_20
theorem eL_law_21 : ev X m_law 21 [a0, a1, a2, a3] st mem = ev X m_law 22 [a0, a1, a2, a3] (vI 5 :: st) mem := ke_iconst (by decide) dL_law_21
theorem eL_law_22 : ev X m_law 22 [a0, a1, a2, a3] (vI y :: vI x :: st) mem = ev X m_law 23 [a0, a1, a2, a3] (vI (w32 (x - y)) :: st) mem := ke_isub dL_law_22
theorem eL_law_23 : ev X m_law 23 [a0, a1, a2, a3] (vI y :: vI x :: st) mem = if y < x then ev X m_law 1376 [a0, a1, a2, a3] st mem else ev X m_law 26 [a0, a1, a2, a3] st mem := ke_icmp_gt dL_law_23 rfl
theorem eL_law_26 : ev X m_law 26 [vR r, a1, a2, a3] st mem = ev X m_law 27 [vR r, a1, a2, a3] (vR r :: st) mem := ke_aload_n rfl dL_law_26
theorem eL_law_26x : ev X m_law 26 [vX r, a1, a2, a3] st mem = ev X m_law 27 [vX r, a1, a2, a3] (vX r :: st) mem := ke_xload_n rfl dL_law_26
theorem eL_law_27 : ev X m_law 27 [a0, a1, a2, vI x] st mem = ev X m_law 28 [a0, a1, a2, vI x] (vI x :: st) mem := ke_iload_n rfl dL_law_27
theorem eL_law_28 : ev X m_law 28 [a0, a1, a2, a3] (vI x :: vX 0 :: st) mem = evb X (sget X x) m_law 29 [a0, a1, a2, a3] st mem := ke_saload dL_law_28
theorem eL_law_29 : ev X m_law 29 [a0, a1, a2, a3] st mem = ev X m_law 31 [a0, a1, a2, a3] (vI 63 :: st) mem := ke_bipush (by decide) dL_law_29
theorem eL_law_31 : ev X m_law 31 [a0, a1, a2, a3] (vI y :: vI x :: st) mem = ev X m_law 32 [a0, a1, a2, a3] (vI (and32 x y) :: st) mem := ke_iand dL_law_31
theorem eL_law_32 : ev X m_law 32 [a0, a1, a2, a3] (vI x :: st) mem = if x = 0 then ev X m_law 208 [a0, a1, a2, a3] st mem else if x = 1 then ev X m_law 231 [a0, a1, a2, a3] st mem else if x = 2 then ev X m_law 244 [a0, a1, a2, a3] st mem else if x = 3 then ev X m_law 277 [a0, a1, a2, a3] st mem else if x = 4 then ev X m_law 310 [a0, a1, a2, a3] st mem else if x = 5 then ev X m_law 343 [a0, a1, a2, a3] st mem else if x = 6 then ev X m_law 376 [a0, a1, a2, a3] st mem else if x = 7 then ev X m_law 419 [a0, a1, a2, a3] st mem else if x = 8 then ev X m_law 452 [a0, a1, a2, a3] st mem else if x = 9 then ev X m_law 485 [a0, a1, a2, a3] st mem else if x = 10 then ev X m_law 518 [a0, a1, a2, a3] st mem else if x = 11 then ev X m_law 561 [a0, a1, a2, a3] st mem else if x = 12 then ev X m_law 584 [a0, a1, a2, a3] st mem else if x = 13 then ev X m_law 627 [a0, a1, a2, a3] st mem else if x = 14 then ev X m_law 670 [a0, a1, a2, a3] st mem else if x = 15 then ev X m_law 703 [a0, a1, a2, a3] st mem else if x = 16 then ev X m_law 726 [a0, a1, a2, a3] st mem else if x = 17 then ev X m_law 749 [a0, a1, a2, a3] st mem else if x = 18 then ev X m_law 782 [a0, a1, a2, a3] st mem else if x = 19 then ev X m_law 815 [a0, a1, a2, a3] st mem else if x = 20 then ev X m_law 828 [a0, a1, a2, a3] st mem else if x = 21 then ev X m_law 851 [a0, a1, a2, a3] st mem else if x = 22 then ev X m_law 884 [a0, a1, a2, a3] st mem else if x = 23 then ev X m_law 907 [a0, a1, a2, a3] st mem else if x = 24 then ev X m_law 940 [a0, a1, a2, a3] st mem else if x = 25 then ev X m_law 963 [a0, a1, a2, a3] st mem else if x = 26 then ev X m_law 996 [a0, a1, a2, a3] st mem else if x = 27 then ev X m_law 1029 [a0, a1, a2, a3] st mem else if x = 28 then ev X m_law 1042 [a0, a1, a2, a3] st mem else if x = 29 then ev X m_law 1065 [a0, a1, a2, a3] st mem else if x = 30 then ev X m_law 1108 [a0, a1, a2, a3] st mem else if x = 31 then ev X m_law 1162 [a0, a1, a2, a3] st mem else if x = 32 then ev X m_law 1186 [a0, a1, a2, a3] st mem else if x = 33 then ev X m_law 1229 [a0, a1, a2, a3] st mem else if x = 34 then ev X m_law 1252 [a0, a1, a2, a3] st mem else if x = 35 then ev X m_law 1265 [a0, a1, a2, a3] st mem else if x = 36 then ev X m_law 1278 [a0, a1, a2, a3] st mem else if x = 37 then ev X m_law 1321 [a0, a1, a2, a3] st mem else if x = 38 then ev X m_law 1334 [a0, a1, a2, a3] st mem else if x = 39 then ev X m_law 1347 [a0, a1, a2, a3] st mem else ev X m_law 1370 [a0, a1, a2, a3] st mem := by
  by_cases h0 : x = 0
  · subst h0; rw [if_pos rfl]; exact ke_swT dL_law_32 (by decide) (by decide) (off := 176) rfl rfl
  rw [if_neg h0]
  by_cases h1 : x = 1
  · subst h1; rw [if_pos rfl]; exact ke_swT dL_law_32 (by decide) (by decide) (off := 199) rfl rfl
  rw [if_neg h1]
  by_cases h2 : x = 2
  · subst h2; rw [if_pos rfl]; exact ke_swT dL_law_32 (by decide) (by decide) (off := 212) rfl rfl
  rw [if_neg h2]
  by_cases h3 : x = 3
  · subst h3; rw [if_pos rfl]; exact ke_swT dL_law_32 (by decide) (by decide) (off := 245) rfl rfl
  rw [if_neg h3]
  by_cases h4 : x = 4
  · subst h4; rw [if_pos rfl]; exact ke_swT dL_law_32 (by decide) (by decide) (off := 278) rfl rfl
  rw [if_neg h4]
  by_cases h5 : x = 5
  · subst h5; rw [if_pos rfl]; exact ke_swT dL_law_32 (by decide) (by decide) (off := 311) rfl rfl
  rw [if_neg h5]
  by_cases h6 : x = 6
  · subst h6; rw [if_pos rfl]; exact ke_swT dL_law_32 (by decide) (by decide) (off := 344) rfl rfl
  rw [if_neg h6]
  by_cases h7 : x = 7
  · subst h7; rw [if_pos rfl]; exact ke_swT dL_law_32 (by decide) (by decide) (off := 387) rfl rfl
  rw [if_neg h7]
  by_cases h8 : x = 8
  · subst h8; rw [if_pos rfl]; exact ke_swT dL_law_32 (by decide) (by decide) (off := 420) rfl rfl
  rw [if_neg h8]
  by_cases h9 : x = 9
  · subst h9; rw [if_pos rfl]; exact ke_swT dL_law_32 (by decide) (by decide) (off := 453) rfl rfl
  rw [if_neg h9]
  by_cases h10 : x = 10
  · subst h10; rw [if_pos rfl]; exact ke_swT dL_law_32 (by decide) (by decide) (off := 486) rfl rfl
  rw [if_neg h10]
  by_cases h11 : x = 11
  · subst h11; rw [if_pos rfl]; exact ke_swT dL_law_32 (by decide) (by decide) (off := 529) rfl rfl
  rw [if_neg h11]
  by_cases h12 : x = 12
  · subst h12; rw [if_pos rfl]; exact ke_swT dL_law_32 (by decide) (by decide) (off := 552) rfl rfl
  rw [if_neg h12]
  by_cases h13 : x = 13
  · subst h13; rw [if_pos rfl]; exact ke_swT dL_law_32 (by decide) (by decide) (off := 595) rfl rfl
  rw [if_neg h13]
  by_cases h14 : x = 14
  · subst h14; rw [if_pos rfl]; exact ke_swT dL_law_32 (by decide) (by decide) (off := 638) rfl rfl
  rw [if_neg h14]
  by_cases h15 : x = 15
  · subst h15; rw [if_pos rfl]; exact ke_swT dL_law_32 (by decide) (by decide) (off := 671) rfl rfl
  rw [if_neg h15]
  by_cases h16 : x = 16
  · subst h16; rw [if_pos rfl]; exact ke_swT dL_law_32 (by decide) (by decide) (off := 694) rfl rfl
  rw [if_neg h16]
  by_cases h17 : x = 17
  · subst h17; rw [if_pos rfl]; exact ke_swT dL_law_32 (by decide) (by decide) (off := 717) rfl rfl
  rw [if_neg h17]
  by_cases h18 : x = 18
  · subst h18; rw [if_pos rfl]; exact ke_swT dL_law_32 (by decide) (by decide) (off := 750) rfl rfl
  rw [if_neg h18]
  by_cases h19 : x = 19
  · subst h19; rw [if_pos rfl]; exact ke_swT dL_law_32 (by decide) (by decide) (off := 783) rfl rfl
  rw [if_neg h19]
  by_cases h20 : x = 20
  · subst h20; rw [if_pos rfl]; exact ke_swT dL_law_32 (by decide) (by decide) (off := 796) rfl rfl
  rw [if_neg h20]
  by_cases h21 : x = 21
  · subst h21; rw [if_pos rfl]; exact ke_swT dL_law_32 (by decide) (by decide) (off := 819) rfl rfl
  rw [if_neg h21]
  by_cases h22 : x = 22
  · subst h22; rw [if_pos rfl]; exact ke_swT dL_law_32 (by decide) (by decide) (off := 852) rfl rfl
  rw [if_neg h22]
  by_cases h23 : x = 23
  · subst h23; rw [if_pos rfl]; exact ke_swT dL_law_32 (by decide) (by decide) (off := 875) rfl rfl
  rw [if_neg h23]
  by_cases h24 : x = 24
  · subst h24; rw [if_pos rfl]; exact ke_swT dL_law_32 (by decide) (by decide) (off := 908) rfl rfl
  rw [if_neg h24]
  by_cases h25 : x = 25
  · subst h25; rw [if_pos rfl]; exact ke_swT dL_law_32 (by decide) (by decide) (off := 931) rfl rfl
  rw [if_neg h25]
  by_cases h26 : x = 26
  · subst h26; rw [if_pos rfl]; exact ke_swT dL_law_32 (by decide) (by decide) (off := 964) rfl rfl
  rw [if_neg h26]
  by_cases h27 : x = 27
  · subst h27; rw [if_pos rfl]; exact ke_swT dL_law_32 (by decide) (by decide) (off := 997) rfl rfl
  rw [if_neg h27]
  by_cases h28 : x = 28
  · subst h28; rw [if_pos rfl]; exact ke_swT dL_law_32 (by decide) (by decide) (off := 1010) rfl rfl
  rw [if_neg h28]
  by_cases h29 : x = 29
  · subst h29; rw [if_pos rfl]; exact ke_swT dL_law_32 (by decide) (by decide) (off := 1033) rfl rfl
  rw [if_neg h29]
  by_cases h30 : x = 30
  · subst h30; rw [if_pos rfl]; exact ke_swT dL_law_32 (by decide) (by decide) (off := 1076) rfl rfl
  rw [if_neg h30]
  by_cases h31 : x = 31
  · subst h31; rw [if_pos rfl]; exact ke_swT dL_law_32 (by decide) (by decide) (off := 1130) rfl rfl
  rw [if_neg h31]
  by_cases h32 : x = 32
  · subst h32; rw [if_pos rfl]; exact ke_swT dL_law_32 (by decide) (by decide) (off := 1154) rfl rfl
  rw [if_neg h32]
  by_cases h33 : x = 33
  · subst h33; rw [if_pos rfl]; exact ke_swT dL_law_32 (by decide) (by decide) (off := 1197) rfl rfl
  rw [if_neg h33]
  by_cases h34 : x = 34
  · subst h34; rw [if_pos rfl]; exact ke_swT dL_law_32 (by decide) (by decide) (off := 1220) rfl rfl
  rw [if_neg h34]
  by_cases h35 : x = 35
  · subst h35; rw [if_pos rfl]; exact ke_swT dL_law_32 (by decide) (by decide) (off := 1233) rfl rfl
  rw [if_neg h35]
  by_cases h36 : x = 36
  · subst h36; rw [if_pos rfl]; exact ke_swT dL_law_32 (by decide) (by decide) (off := 1246) rfl rfl
  rw [if_neg h36]
  by_cases h37 : x = 37
  · subst h37; rw [if_pos rfl]; exact ke_swT dL_law_32 (by decide) (by decide) (off := 1289) rfl rfl
  rw [if_neg h37]
  by_cases h38 : x = 38
  · subst h38; rw [if_pos rfl]; exact ke_swT dL_law_32 (by decide) (by decide) (off := 1302) rfl rfl
  rw [if_neg h38]
  by_cases h39 : x = 39
  · subst h39; rw [if_pos rfl]; exact ke_swT dL_law_32 (by decide) (by decide) (off := 1315) rfl rfl
  rw [if_neg h39]
  exact ke_swD dL_law_32 (by omega) rfl
theorem eL_law_208 : ev X m_law 208 [a0, vR r, a2, a3] st mem = ev X m_law 209 [a0, vR r, a2, a3] (vR r :: st) mem := ke_aload_n rfl dL_law_208
theorem eL_law_208x : ev X m_law 208 [a0, vX r, a2, a3] st mem = ev X m_law 209 [a0, vX r, a2, a3] (vX r :: st) mem := ke_xload_n rfl dL_law_208
theorem eL_law_209 : ev X m_law 209 [vR r, a1, a2, a3] st mem = ev X m_law 210 [vR r, a1, a2, a3] (vR r :: st) mem := ke_aload_n rfl dL_law_209
theorem eL_law_209x : ev X m_law 209 [vX r, a1, a2, a3] st mem = ev X m_law 210 [vX r, a1, a2, a3] (vX r :: st) mem := ke_xload_n rfl dL_law_209
theorem eL_law_210 : ev X m_law 210 [a0, a1, a2, vI x] st mem = ev X m_law 211 [a0, a1, a2, vI x] (vI x :: st) mem := ke_iload_n rfl dL_law_210
theorem eL_law_211 : ev X m_law 211 [a0, a1, a2, a3] st mem = ev X m_law 212 [a0, a1, a2, a3] (vI 1 :: st) mem := ke_iconst (by decide) dL_law_211
theorem eL_law_212 : ev X m_law 212 [a0, a1, a2, a3] (vI y :: vI x :: st) mem = ev X m_law 213 [a0, a1, a2, a3] (vI (w32 (x + y)) :: st) mem := ke_iadd dL_law_212
theorem eL_law_213 : ev X m_law 213 [a0, a1, a2, a3] (vI x :: vX 0 :: st) mem = evb X (sget X x) m_law 214 [a0, a1, a2, a3] st mem := ke_saload dL_law_213
theorem eL_law_214 : ev X m_law 214 [a0, a1, a2, a3] (vI n0 :: vR r :: []) mem = evc X (gR mem r 4 (ev X m_X4_letter 0 [vR r, vI n0] [] mem)) m_law 217 [a0, a1, a2, a3] [] := ke_callV (m' := m_X4_letter) (as := [vI n0]) (n := 1) (rest := []) dL_law_214 rfl rfl rfl rfl rfl rfl (Nat.le_of_ble_eq_true rfl) (Nat.le_of_ble_eq_true rfl) (Nat.le_of_ble_eq_true rfl) rfl
theorem eL_law_217 : ev X m_law 217 [a0, a1, vR r, a3] st mem = ev X m_law 218 [a0, a1, vR r, a3] (vR r :: st) mem := ke_aload_n rfl dL_law_217
theorem eL_law_217x : ev X m_law 217 [a0, a1, vX r, a3] st mem = ev X m_law 218 [a0, a1, vX r, a3] (vX r :: st) mem := ke_xload_n rfl dL_law_217
theorem eL_law_218 : ev X m_law 218 [vR r, a1, a2, a3] st mem = ev X m_law 219 [vR r, a1, a2, a3] (vR r :: st) mem := ke_aload_n rfl dL_law_218
theorem eL_law_218x : ev X m_law 218 [vX r, a1, a2, a3] st mem = ev X m_law 219 [vX r, a1, a2, a3] (vX r :: st) mem := ke_xload_n rfl dL_law_218
theorem eL_law_219 : ev X m_law 219 [a0, a1, a2, vI x] st mem = ev X m_law 220 [a0, a1, a2, vI x] (vI x :: st) mem := ke_iload_n rfl dL_law_219
theorem eL_law_220 : ev X m_law 220 [a0, a1, a2, a3] st mem = ev X m_law 221 [a0, a1, a2, a3] (vI 1 :: st) mem := ke_iconst (by decide) dL_law_220
theorem eL_law_221 : ev X m_law 221 [a0, a1, a2, a3] (vI y :: vI x :: st) mem = ev X m_law 222 [a0, a1, a2, a3] (vI (w32 (x + y)) :: st) mem := ke_iadd dL_law_221
theorem eL_law_222 : ev X m_law 222 [a0, a1, a2, a3] (vI x :: vX 0 :: st) mem = evb X (sget X x) m_law 223 [a0, a1, a2, a3] st mem := ke_saload dL_law_222
theorem eL_law_223 : ev X m_law 223 [a0, a1, a2, a3] (vI n0 :: vR r :: [s0]) mem = evc X (gR mem r 5 (ev X m_X5_letter 0 [vR r, vI n0, vS] [] mem)) m_law 226 [a0, a1, a2, a3] [s0] := ke_callV (m' := m_X5_letter) (as := [vI n0]) (n := 1) (rest := [s0]) dL_law_223 rfl rfl rfl rfl rfl rfl (Nat.le_of_ble_eq_true rfl) (Nat.le_of_ble_eq_true rfl) (Nat.le_of_ble_eq_true rfl) rfl
theorem eL_law_226 : ev X m_law 226 [a0, a1, a2, a3] (vI y :: vI x :: st) mem = if x = y then ev X m_law 1370 [a0, a1, a2, a3] st mem else ev X m_law 229 [a0, a1, a2, a3] st mem := ke_icmp_eq dL_law_226 rfl
theorem eL_law_229 : ev X m_law 229 [a0, a1, a2, a3] st mem = ev X m_law 230 [a0, a1, a2, a3] (vI 0 :: st) mem := ke_iconst (by decide) dL_law_229
theorem eL_law_230a : ev X m_law 230 [a0, a1, a2, a3] [vI 1] mem = some (some (vI 1), mem) := ke_zreturn dL_law_230 rfl rfl
theorem eL_law_230b : ev X m_law 230 [a0, a1, a2, a3] [vI 0] mem = some (some (vI 0), mem) := ke_zreturn dL_law_230 rfl rfl
theorem eL_law_230c {c : Prop} [Decidable c] : ev X m_law 230 [a0, a1, a2, a3] [vI (if c then 1 else 0)] mem = some (some (vI (if c then 1 else 0)), mem) := ke_zreturn dL_law_230 rfl (by split <;> rfl)
theorem eL_law_231 : ev X m_law 231 [a0, vR r, a2, a3] st mem = ev X m_law 232 [a0, vR r, a2, a3] (vR r :: st) mem := ke_aload_n rfl dL_law_231
theorem eL_law_231x : ev X m_law 231 [a0, vX r, a2, a3] st mem = ev X m_law 232 [a0, vX r, a2, a3] (vX r :: st) mem := ke_xload_n rfl dL_law_231
theorem eL_law_232 : ev X m_law 232 [a0, a1, a2, a3] (vR r :: []) mem = evc X (gR mem r 4 (ev X m_X4_duchy 0 [vR r, vS, vS, vS, vS, vS] [] mem)) m_law 235 [a0, a1, a2, a3] [] := ke_callV (m' := m_X4_duchy) (as := []) (n := 0) (rest := []) dL_law_232 rfl rfl rfl rfl rfl rfl (Nat.le_of_ble_eq_true rfl) (Nat.le_of_ble_eq_true rfl) (Nat.le_of_ble_eq_true rfl) rfl
theorem eL_law_235 : ev X m_law 235 [a0, a1, vR r, a3] st mem = ev X m_law 236 [a0, a1, vR r, a3] (vR r :: st) mem := ke_aload_n rfl dL_law_235
theorem eL_law_235x : ev X m_law 235 [a0, a1, vX r, a3] st mem = ev X m_law 236 [a0, a1, vX r, a3] (vX r :: st) mem := ke_xload_n rfl dL_law_235
theorem eL_law_236 : ev X m_law 236 [a0, a1, a2, a3] (vR r :: [s0]) mem = evc X (gR mem r 5 (ev X m_X5_duchy 0 [vR r, vS, vS] [] mem)) m_law 239 [a0, a1, a2, a3] [s0] := ke_callV (m' := m_X5_duchy) (as := []) (n := 0) (rest := [s0]) dL_law_236 rfl rfl rfl rfl rfl rfl (Nat.le_of_ble_eq_true rfl) (Nat.le_of_ble_eq_true rfl) (Nat.le_of_ble_eq_true rfl) rfl
theorem eL_law_239 : ev X m_law 239 [a0, a1, a2, a3] (vI y :: vI x :: st) mem = if x = y then ev X m_law 1370 [a0, a1, a2, a3] st mem else ev X m_law 242 [a0, a1, a2, a3] st mem := ke_icmp_eq dL_law_239 rfl
theorem eL_law_242 : ev X m_law 242 [a0, a1, a2, a3] st mem = ev X m_law 243 [a0, a1, a2, a3] (vI 0 :: st) mem := ke_iconst (by decide) dL_law_242
theorem eL_law_243a : ev X m_law 243 [a0, a1, a2, a3] [vI 1] mem = some (some (vI 1), mem) := ke_zreturn dL_law_243 rfl rfl
theorem eL_law_243b : ev X m_law 243 [a0, a1, a2, a3] [vI 0] mem = some (some (vI 0), mem) := ke_zreturn dL_law_243 rfl rfl
theorem eL_law_243c {c : Prop} [Decidable c] : ev X m_law 243 [a0, a1, a2, a3] [vI (if c then 1 else 0)] mem = some (some (vI (if c then 1 else 0)), mem) := ke_zreturn dL_law_243 rfl (by split <;> rfl)
theorem eL_law_244 : ev X m_law 244 [a0, vR r, a2, a3] st mem = ev X m_law 245 [a0, vR r, a2, a3] (vR r :: st) mem := ke_aload_n rfl dL_law_244
theorem eL_law_244x : ev X m_law 244 [a0, vX r, a2, a3] st mem = ev X m_law 245 [a0, vX r, a2, a3] (vX r :: st) mem := ke_xload_n rfl dL_law_244
theorem eL_law_245 : ev X m_law 245 [vR r, a1, a2, a3] st mem = ev X m_law 246 [vR r, a1, a2, a3] (vR r :: st) mem := ke_aload_n rfl dL_law_245
theorem eL_law_245x : ev X m_law 245 [vX r, a1, a2, a3] st mem = ev X m_law 246 [vX r, a1, a2, a3] (vX r :: st) mem := ke_xload_n rfl dL_law_245
theorem eL_law_246 : ev X m_law 246 [a0, a1, a2, vI x] st mem = ev X m_law 247 [a0, a1, a2, vI x] (vI x :: st) mem := ke_iload_n rfl dL_law_246
theorem eL_law_247 : ev X m_law 247 [a0, a1, a2, a3] st mem = ev X m_law 248 [a0, a1, a2, a3] (vI 1 :: st) mem := ke_iconst (by decide) dL_law_247
theorem eL_law_248 : ev X m_law 248 [a0, a1, a2, a3] (vI y :: vI x :: st) mem = ev X m_law 249 [a0, a1, a2, a3] (vI (w32 (x + y)) :: st) mem := ke_iadd dL_law_248
theorem eL_law_249 : ev X m_law 249 [a0, a1, a2, a3] (vI x :: vX 0 :: st) mem = evb X (sget X x) m_law 250 [a0, a1, a2, a3] st mem := ke_saload dL_law_249
theorem eL_law_250 : ev X m_law 250 [vR r, a1, a2, a3] st mem = ev X m_law 251 [vR r, a1, a2, a3] (vR r :: st) mem := ke_aload_n rfl dL_law_250
theorem eL_law_250x : ev X m_law 250 [vX r, a1, a2, a3] st mem = ev X m_law 251 [vX r, a1, a2, a3] (vX r :: st) mem := ke_xload_n rfl dL_law_250
theorem eL_law_251 : ev X m_law 251 [a0, a1, a2, vI x] st mem = ev X m_law 252 [a0, a1, a2, vI x] (vI x :: st) mem := ke_iload_n rfl dL_law_251
theorem eL_law_252 : ev X m_law 252 [a0, a1, a2, a3] st mem = ev X m_law 253 [a0, a1, a2, a3] (vI 2 :: st) mem := ke_iconst (by decide) dL_law_252
theorem eL_law_253 : ev X m_law 253 [a0, a1, a2, a3] (vI y :: vI x :: st) mem = ev X m_law 254 [a0, a1, a2, a3] (vI (w32 (x + y)) :: st) mem := ke_iadd dL_law_253
theorem eL_law_254 : ev X m_law 254 [a0, a1, a2, a3] (vI x :: vX 0 :: st) mem = evb X (sget X x) m_law 255 [a0, a1, a2, a3] st mem := ke_saload dL_law_254
theorem eL_law_255 : ev X m_law 255 [a0, a1, a2, a3] (vI n1 :: vI n0 :: vR r :: []) mem = evc X (gR mem r 4 (ev X m_X4_person 0 [vR r, vI n0, vI n1] [] mem)) m_law 258 [a0, a1, a2, a3] [] := ke_callV (m' := m_X4_person) (as := [vI n0, vI n1]) (n := 2) (rest := []) dL_law_255 rfl rfl rfl rfl rfl rfl (Nat.le_of_ble_eq_true rfl) (Nat.le_of_ble_eq_true rfl) (Nat.le_of_ble_eq_true rfl) rfl
theorem eL_law_258 : ev X m_law 258 [a0, a1, vR r, a3] st mem = ev X m_law 259 [a0, a1, vR r, a3] (vR r :: st) mem := ke_aload_n rfl dL_law_258
theorem eL_law_258x : ev X m_law 258 [a0, a1, vX r, a3] st mem = ev X m_law 259 [a0, a1, vX r, a3] (vX r :: st) mem := ke_xload_n rfl dL_law_258
theorem eL_law_259 : ev X m_law 259 [vR r, a1, a2, a3] st mem = ev X m_law 260 [vR r, a1, a2, a3] (vR r :: st) mem := ke_aload_n rfl dL_law_259
theorem eL_law_259x : ev X m_law 259 [vX r, a1, a2, a3] st mem = ev X m_law 260 [vX r, a1, a2, a3] (vX r :: st) mem := ke_xload_n rfl dL_law_259
theorem eL_law_260 : ev X m_law 260 [a0, a1, a2, vI x] st mem = ev X m_law 261 [a0, a1, a2, vI x] (vI x :: st) mem := ke_iload_n rfl dL_law_260
theorem eL_law_261 : ev X m_law 261 [a0, a1, a2, a3] st mem = ev X m_law 262 [a0, a1, a2, a3] (vI 1 :: st) mem := ke_iconst (by decide) dL_law_261
theorem eL_law_262 : ev X m_law 262 [a0, a1, a2, a3] (vI y :: vI x :: st) mem = ev X m_law 263 [a0, a1, a2, a3] (vI (w32 (x + y)) :: st) mem := ke_iadd dL_law_262
theorem eL_law_263 : ev X m_law 263 [a0, a1, a2, a3] (vI x :: vX 0 :: st) mem = evb X (sget X x) m_law 264 [a0, a1, a2, a3] st mem := ke_saload dL_law_263
theorem eL_law_264 : ev X m_law 264 [vR r, a1, a2, a3] st mem = ev X m_law 265 [vR r, a1, a2, a3] (vR r :: st) mem := ke_aload_n rfl dL_law_264
theorem eL_law_264x : ev X m_law 264 [vX r, a1, a2, a3] st mem = ev X m_law 265 [vX r, a1, a2, a3] (vX r :: st) mem := ke_xload_n rfl dL_law_264
theorem eL_law_265 : ev X m_law 265 [a0, a1, a2, vI x] st mem = ev X m_law 266 [a0, a1, a2, vI x] (vI x :: st) mem := ke_iload_n rfl dL_law_265
theorem eL_law_266 : ev X m_law 266 [a0, a1, a2, a3] st mem = ev X m_law 267 [a0, a1, a2, a3] (vI 2 :: st) mem := ke_iconst (by decide) dL_law_266
theorem eL_law_267 : ev X m_law 267 [a0, a1, a2, a3] (vI y :: vI x :: st) mem = ev X m_law 268 [a0, a1, a2, a3] (vI (w32 (x + y)) :: st) mem := ke_iadd dL_law_267
theorem eL_law_268 : ev X m_law 268 [a0, a1, a2, a3] (vI x :: vX 0 :: st) mem = evb X (sget X x) m_law 269 [a0, a1, a2, a3] st mem := ke_saload dL_law_268
theorem eL_law_269 : ev X m_law 269 [a0, a1, a2, a3] (vI n1 :: vI n0 :: vR r :: [s0]) mem = evc X (gR mem r 5 (ev X m_X5_person 0 [vR r, vI n0, vI n1] [] mem)) m_law 272 [a0, a1, a2, a3] [s0] := ke_callV (m' := m_X5_person) (as := [vI n0, vI n1]) (n := 2) (rest := [s0]) dL_law_269 rfl rfl rfl rfl rfl rfl (Nat.le_of_ble_eq_true rfl) (Nat.le_of_ble_eq_true rfl) (Nat.le_of_ble_eq_true rfl) rfl
theorem eL_law_272 : ev X m_law 272 [a0, a1, a2, a3] (vI y :: vI x :: st) mem = if x = y then ev X m_law 1370 [a0, a1, a2, a3] st mem else ev X m_law 275 [a0, a1, a2, a3] st mem := ke_icmp_eq dL_law_272 rfl
theorem eL_law_275 : ev X m_law 275 [a0, a1, a2, a3] st mem = ev X m_law 276 [a0, a1, a2, a3] (vI 0 :: st) mem := ke_iconst (by decide) dL_law_275
theorem eL_law_276a : ev X m_law 276 [a0, a1, a2, a3] [vI 1] mem = some (some (vI 1), mem) := ke_zreturn dL_law_276 rfl rfl
theorem eL_law_276b : ev X m_law 276 [a0, a1, a2, a3] [vI 0] mem = some (some (vI 0), mem) := ke_zreturn dL_law_276 rfl rfl
theorem eL_law_276c {c : Prop} [Decidable c] : ev X m_law 276 [a0, a1, a2, a3] [vI (if c then 1 else 0)] mem = some (some (vI (if c then 1 else 0)), mem) := ke_zreturn dL_law_276 rfl (by split <;> rfl)
theorem eL_law_277 : ev X m_law 277 [a0, vR r, a2, a3] st mem = ev X m_law 278 [a0, vR r, a2, a3] (vR r :: st) mem := ke_aload_n rfl dL_law_277
theorem eL_law_277x : ev X m_law 277 [a0, vX r, a2, a3] st mem = ev X m_law 278 [a0, vX r, a2, a3] (vX r :: st) mem := ke_xload_n rfl dL_law_277
theorem eL_law_278 : ev X m_law 278 [vR r, a1, a2, a3] st mem = ev X m_law 279 [vR r, a1, a2, a3] (vR r :: st) mem := ke_aload_n rfl dL_law_278
theorem eL_law_278x : ev X m_law 278 [vX r, a1, a2, a3] st mem = ev X m_law 279 [vX r, a1, a2, a3] (vX r :: st) mem := ke_xload_n rfl dL_law_278
theorem eL_law_279 : ev X m_law 279 [a0, a1, a2, vI x] st mem = ev X m_law 280 [a0, a1, a2, vI x] (vI x :: st) mem := ke_iload_n rfl dL_law_279
theorem eL_law_280 : ev X m_law 280 [a0, a1, a2, a3] st mem = ev X m_law 281 [a0, a1, a2, a3] (vI 1 :: st) mem := ke_iconst (by decide) dL_law_280
theorem eL_law_281 : ev X m_law 281 [a0, a1, a2, a3] (vI y :: vI x :: st) mem = ev X m_law 282 [a0, a1, a2, a3] (vI (w32 (x + y)) :: st) mem := ke_iadd dL_law_281
theorem eL_law_282 : ev X m_law 282 [a0, a1, a2, a3] (vI x :: vX 0 :: st) mem = evb X (sget X x) m_law 283 [a0, a1, a2, a3] st mem := ke_saload dL_law_282
theorem eL_law_283 : ev X m_law 283 [vR r, a1, a2, a3] st mem = ev X m_law 284 [vR r, a1, a2, a3] (vR r :: st) mem := ke_aload_n rfl dL_law_283
theorem eL_law_283x : ev X m_law 283 [vX r, a1, a2, a3] st mem = ev X m_law 284 [vX r, a1, a2, a3] (vX r :: st) mem := ke_xload_n rfl dL_law_283
theorem eL_law_284 : ev X m_law 284 [a0, a1, a2, vI x] st mem = ev X m_law 285 [a0, a1, a2, vI x] (vI x :: st) mem := ke_iload_n rfl dL_law_284
theorem eL_law_285 : ev X m_law 285 [a0, a1, a2, a3] st mem = ev X m_law 286 [a0, a1, a2, a3] (vI 2 :: st) mem := ke_iconst (by decide) dL_law_285
theorem eL_law_286 : ev X m_law 286 [a0, a1, a2, a3] (vI y :: vI x :: st) mem = ev X m_law 287 [a0, a1, a2, a3] (vI (w32 (x + y)) :: st) mem := ke_iadd dL_law_286
theorem eL_law_287 : ev X m_law 287 [a0, a1, a2, a3] (vI x :: vX 0 :: st) mem = evb X (sget X x) m_law 288 [a0, a1, a2, a3] st mem := ke_saload dL_law_287
theorem eL_law_288 : ev X m_law 288 [a0, a1, a2, a3] (vI n1 :: vI n0 :: vR r :: []) mem = evc X (gR mem r 4 (ev X m_X4_parcel 0 [vR r, vI n0, vI n1] [] mem)) m_law 291 [a0, a1, a2, a3] [] := ke_callV (m' := m_X4_parcel) (as := [vI n0, vI n1]) (n := 2) (rest := []) dL_law_288 rfl rfl rfl rfl rfl rfl (Nat.le_of_ble_eq_true rfl) (Nat.le_of_ble_eq_true rfl) (Nat.le_of_ble_eq_true rfl) rfl
theorem eL_law_291 : ev X m_law 291 [a0, a1, vR r, a3] st mem = ev X m_law 292 [a0, a1, vR r, a3] (vR r :: st) mem := ke_aload_n rfl dL_law_291
theorem eL_law_291x : ev X m_law 291 [a0, a1, vX r, a3] st mem = ev X m_law 292 [a0, a1, vX r, a3] (vX r :: st) mem := ke_xload_n rfl dL_law_291
theorem eL_law_292 : ev X m_law 292 [vR r, a1, a2, a3] st mem = ev X m_law 293 [vR r, a1, a2, a3] (vR r :: st) mem := ke_aload_n rfl dL_law_292
theorem eL_law_292x : ev X m_law 292 [vX r, a1, a2, a3] st mem = ev X m_law 293 [vX r, a1, a2, a3] (vX r :: st) mem := ke_xload_n rfl dL_law_292
theorem eL_law_293 : ev X m_law 293 [a0, a1, a2, vI x] st mem = ev X m_law 294 [a0, a1, a2, vI x] (vI x :: st) mem := ke_iload_n rfl dL_law_293
theorem eL_law_294 : ev X m_law 294 [a0, a1, a2, a3] st mem = ev X m_law 295 [a0, a1, a2, a3] (vI 1 :: st) mem := ke_iconst (by decide) dL_law_294
theorem eL_law_295 : ev X m_law 295 [a0, a1, a2, a3] (vI y :: vI x :: st) mem = ev X m_law 296 [a0, a1, a2, a3] (vI (w32 (x + y)) :: st) mem := ke_iadd dL_law_295
theorem eL_law_296 : ev X m_law 296 [a0, a1, a2, a3] (vI x :: vX 0 :: st) mem = evb X (sget X x) m_law 297 [a0, a1, a2, a3] st mem := ke_saload dL_law_296
theorem eL_law_297 : ev X m_law 297 [vR r, a1, a2, a3] st mem = ev X m_law 298 [vR r, a1, a2, a3] (vR r :: st) mem := ke_aload_n rfl dL_law_297
theorem eL_law_297x : ev X m_law 297 [vX r, a1, a2, a3] st mem = ev X m_law 298 [vX r, a1, a2, a3] (vX r :: st) mem := ke_xload_n rfl dL_law_297
theorem eL_law_298 : ev X m_law 298 [a0, a1, a2, vI x] st mem = ev X m_law 299 [a0, a1, a2, vI x] (vI x :: st) mem := ke_iload_n rfl dL_law_298
theorem eL_law_299 : ev X m_law 299 [a0, a1, a2, a3] st mem = ev X m_law 300 [a0, a1, a2, a3] (vI 2 :: st) mem := ke_iconst (by decide) dL_law_299
theorem eL_law_300 : ev X m_law 300 [a0, a1, a2, a3] (vI y :: vI x :: st) mem = ev X m_law 301 [a0, a1, a2, a3] (vI (w32 (x + y)) :: st) mem := ke_iadd dL_law_300
theorem eL_law_301 : ev X m_law 301 [a0, a1, a2, a3] (vI x :: vX 0 :: st) mem = evb X (sget X x) m_law 302 [a0, a1, a2, a3] st mem := ke_saload dL_law_301
theorem eL_law_302 : ev X m_law 302 [a0, a1, a2, a3] (vI n1 :: vI n0 :: vR r :: [s0]) mem = evc X (gR mem r 5 (ev X m_X5_parcel 0 [vR r, vI n0, vI n1] [] mem)) m_law 305 [a0, a1, a2, a3] [s0] := ke_callV (m' := m_X5_parcel) (as := [vI n0, vI n1]) (n := 2) (rest := [s0]) dL_law_302 rfl rfl rfl rfl rfl rfl (Nat.le_of_ble_eq_true rfl) (Nat.le_of_ble_eq_true rfl) (Nat.le_of_ble_eq_true rfl) rfl
theorem eL_law_305 : ev X m_law 305 [a0, a1, a2, a3] (vI y :: vI x :: st) mem = if x = y then ev X m_law 1370 [a0, a1, a2, a3] st mem else ev X m_law 308 [a0, a1, a2, a3] st mem := ke_icmp_eq dL_law_305 rfl
theorem eL_law_308 : ev X m_law 308 [a0, a1, a2, a3] st mem = ev X m_law 309 [a0, a1, a2, a3] (vI 0 :: st) mem := ke_iconst (by decide) dL_law_308
theorem eL_law_309a : ev X m_law 309 [a0, a1, a2, a3] [vI 1] mem = some (some (vI 1), mem) := ke_zreturn dL_law_309 rfl rfl
theorem eL_law_309b : ev X m_law 309 [a0, a1, a2, a3] [vI 0] mem = some (some (vI 0), mem) := ke_zreturn dL_law_309 rfl rfl
theorem eL_law_309c {c : Prop} [Decidable c] : ev X m_law 309 [a0, a1, a2, a3] [vI (if c then 1 else 0)] mem = some (some (vI (if c then 1 else 0)), mem) := ke_zreturn dL_law_309 rfl (by split <;> rfl)
theorem eL_law_310 : ev X m_law 310 [a0, vR r, a2, a3] st mem = ev X m_law 311 [a0, vR r, a2, a3] (vR r :: st) mem := ke_aload_n rfl dL_law_310
theorem eL_law_310x : ev X m_law 310 [a0, vX r, a2, a3] st mem = ev X m_law 311 [a0, vX r, a2, a3] (vX r :: st) mem := ke_xload_n rfl dL_law_310
theorem eL_law_311 : ev X m_law 311 [vR r, a1, a2, a3] st mem = ev X m_law 312 [vR r, a1, a2, a3] (vR r :: st) mem := ke_aload_n rfl dL_law_311
theorem eL_law_311x : ev X m_law 311 [vX r, a1, a2, a3] st mem = ev X m_law 312 [vX r, a1, a2, a3] (vX r :: st) mem := ke_xload_n rfl dL_law_311
theorem eL_law_312 : ev X m_law 312 [a0, a1, a2, vI x] st mem = ev X m_law 313 [a0, a1, a2, vI x] (vI x :: st) mem := ke_iload_n rfl dL_law_312
theorem eL_law_313 : ev X m_law 313 [a0, a1, a2, a3] st mem = ev X m_law 314 [a0, a1, a2, a3] (vI 1 :: st) mem := ke_iconst (by decide) dL_law_313
theorem eL_law_314 : ev X m_law 314 [a0, a1, a2, a3] (vI y :: vI x :: st) mem = ev X m_law 315 [a0, a1, a2, a3] (vI (w32 (x + y)) :: st) mem := ke_iadd dL_law_314
theorem eL_law_315 : ev X m_law 315 [a0, a1, a2, a3] (vI x :: vX 0 :: st) mem = evb X (sget X x) m_law 316 [a0, a1, a2, a3] st mem := ke_saload dL_law_315
theorem eL_law_316 : ev X m_law 316 [vR r, a1, a2, a3] st mem = ev X m_law 317 [vR r, a1, a2, a3] (vR r :: st) mem := ke_aload_n rfl dL_law_316
theorem eL_law_316x : ev X m_law 316 [vX r, a1, a2, a3] st mem = ev X m_law 317 [vX r, a1, a2, a3] (vX r :: st) mem := ke_xload_n rfl dL_law_316
theorem eL_law_317 : ev X m_law 317 [a0, a1, a2, vI x] st mem = ev X m_law 318 [a0, a1, a2, vI x] (vI x :: st) mem := ke_iload_n rfl dL_law_317
theorem eL_law_318 : ev X m_law 318 [a0, a1, a2, a3] st mem = ev X m_law 319 [a0, a1, a2, a3] (vI 2 :: st) mem := ke_iconst (by decide) dL_law_318
theorem eL_law_319 : ev X m_law 319 [a0, a1, a2, a3] (vI y :: vI x :: st) mem = ev X m_law 320 [a0, a1, a2, a3] (vI (w32 (x + y)) :: st) mem := ke_iadd dL_law_319
theorem eL_law_320 : ev X m_law 320 [a0, a1, a2, a3] (vI x :: vX 0 :: st) mem = evb X (sget X x) m_law 321 [a0, a1, a2, a3] st mem := ke_saload dL_law_320
theorem eL_law_321 : ev X m_law 321 [a0, a1, a2, a3] (vI n1 :: vI n0 :: vR r :: []) mem = evc X (gR mem r 4 (ev X m_X4_hate 0 [vR r, vI n0, vI n1] [] mem)) m_law 324 [a0, a1, a2, a3] [] := ke_callV (m' := m_X4_hate) (as := [vI n0, vI n1]) (n := 2) (rest := []) dL_law_321 rfl rfl rfl rfl rfl rfl (Nat.le_of_ble_eq_true rfl) (Nat.le_of_ble_eq_true rfl) (Nat.le_of_ble_eq_true rfl) rfl
theorem eL_law_324 : ev X m_law 324 [a0, a1, vR r, a3] st mem = ev X m_law 325 [a0, a1, vR r, a3] (vR r :: st) mem := ke_aload_n rfl dL_law_324
theorem eL_law_324x : ev X m_law 324 [a0, a1, vX r, a3] st mem = ev X m_law 325 [a0, a1, vX r, a3] (vX r :: st) mem := ke_xload_n rfl dL_law_324
theorem eL_law_325 : ev X m_law 325 [vR r, a1, a2, a3] st mem = ev X m_law 326 [vR r, a1, a2, a3] (vR r :: st) mem := ke_aload_n rfl dL_law_325
theorem eL_law_325x : ev X m_law 325 [vX r, a1, a2, a3] st mem = ev X m_law 326 [vX r, a1, a2, a3] (vX r :: st) mem := ke_xload_n rfl dL_law_325
theorem eL_law_326 : ev X m_law 326 [a0, a1, a2, vI x] st mem = ev X m_law 327 [a0, a1, a2, vI x] (vI x :: st) mem := ke_iload_n rfl dL_law_326
theorem eL_law_327 : ev X m_law 327 [a0, a1, a2, a3] st mem = ev X m_law 328 [a0, a1, a2, a3] (vI 1 :: st) mem := ke_iconst (by decide) dL_law_327
theorem eL_law_328 : ev X m_law 328 [a0, a1, a2, a3] (vI y :: vI x :: st) mem = ev X m_law 329 [a0, a1, a2, a3] (vI (w32 (x + y)) :: st) mem := ke_iadd dL_law_328
theorem eL_law_329 : ev X m_law 329 [a0, a1, a2, a3] (vI x :: vX 0 :: st) mem = evb X (sget X x) m_law 330 [a0, a1, a2, a3] st mem := ke_saload dL_law_329
theorem eL_law_330 : ev X m_law 330 [vR r, a1, a2, a3] st mem = ev X m_law 331 [vR r, a1, a2, a3] (vR r :: st) mem := ke_aload_n rfl dL_law_330
theorem eL_law_330x : ev X m_law 330 [vX r, a1, a2, a3] st mem = ev X m_law 331 [vX r, a1, a2, a3] (vX r :: st) mem := ke_xload_n rfl dL_law_330
theorem eL_law_331 : ev X m_law 331 [a0, a1, a2, vI x] st mem = ev X m_law 332 [a0, a1, a2, vI x] (vI x :: st) mem := ke_iload_n rfl dL_law_331
theorem eL_law_332 : ev X m_law 332 [a0, a1, a2, a3] st mem = ev X m_law 333 [a0, a1, a2, a3] (vI 2 :: st) mem := ke_iconst (by decide) dL_law_332
theorem eL_law_333 : ev X m_law 333 [a0, a1, a2, a3] (vI y :: vI x :: st) mem = ev X m_law 334 [a0, a1, a2, a3] (vI (w32 (x + y)) :: st) mem := ke_iadd dL_law_333
theorem eL_law_334 : ev X m_law 334 [a0, a1, a2, a3] (vI x :: vX 0 :: st) mem = evb X (sget X x) m_law 335 [a0, a1, a2, a3] st mem := ke_saload dL_law_334
theorem eL_law_335 : ev X m_law 335 [a0, a1, a2, a3] (vI n1 :: vI n0 :: vR r :: [s0]) mem = evc X (gR mem r 5 (ev X m_X5_hate 0 [vR r, vI n0, vI n1] [] mem)) m_law 338 [a0, a1, a2, a3] [s0] := ke_callV (m' := m_X5_hate) (as := [vI n0, vI n1]) (n := 2) (rest := [s0]) dL_law_335 rfl rfl rfl rfl rfl rfl (Nat.le_of_ble_eq_true rfl) (Nat.le_of_ble_eq_true rfl) (Nat.le_of_ble_eq_true rfl) rfl
theorem eL_law_338 : ev X m_law 338 [a0, a1, a2, a3] (vI y :: vI x :: st) mem = if x = y then ev X m_law 1370 [a0, a1, a2, a3] st mem else ev X m_law 341 [a0, a1, a2, a3] st mem := ke_icmp_eq dL_law_338 rfl
theorem eL_law_341 : ev X m_law 341 [a0, a1, a2, a3] st mem = ev X m_law 342 [a0, a1, a2, a3] (vI 0 :: st) mem := ke_iconst (by decide) dL_law_341
theorem eL_law_342a : ev X m_law 342 [a0, a1, a2, a3] [vI 1] mem = some (some (vI 1), mem) := ke_zreturn dL_law_342 rfl rfl
theorem eL_law_342b : ev X m_law 342 [a0, a1, a2, a3] [vI 0] mem = some (some (vI 0), mem) := ke_zreturn dL_law_342 rfl rfl
theorem eL_law_342c {c : Prop} [Decidable c] : ev X m_law 342 [a0, a1, a2, a3] [vI (if c then 1 else 0)] mem = some (some (vI (if c then 1 else 0)), mem) := ke_zreturn dL_law_342 rfl (by split <;> rfl)
theorem eL_law_343 : ev X m_law 343 [a0, vR r, a2, a3] st mem = ev X m_law 344 [a0, vR r, a2, a3] (vR r :: st) mem := ke_aload_n rfl dL_law_343
theorem eL_law_343x : ev X m_law 343 [a0, vX r, a2, a3] st mem = ev X m_law 344 [a0, vX r, a2, a3] (vX r :: st) mem := ke_xload_n rfl dL_law_343
theorem eL_law_344 : ev X m_law 344 [vR r, a1, a2, a3] st mem = ev X m_law 345 [vR r, a1, a2, a3] (vR r :: st) mem := ke_aload_n rfl dL_law_344
theorem eL_law_344x : ev X m_law 344 [vX r, a1, a2, a3] st mem = ev X m_law 345 [vX r, a1, a2, a3] (vX r :: st) mem := ke_xload_n rfl dL_law_344
theorem eL_law_345 : ev X m_law 345 [a0, a1, a2, vI x] st mem = ev X m_law 346 [a0, a1, a2, vI x] (vI x :: st) mem := ke_iload_n rfl dL_law_345
theorem eL_law_346 : ev X m_law 346 [a0, a1, a2, a3] st mem = ev X m_law 347 [a0, a1, a2, a3] (vI 1 :: st) mem := ke_iconst (by decide) dL_law_346
theorem eL_law_347 : ev X m_law 347 [a0, a1, a2, a3] (vI y :: vI x :: st) mem = ev X m_law 348 [a0, a1, a2, a3] (vI (w32 (x + y)) :: st) mem := ke_iadd dL_law_347
theorem eL_law_348 : ev X m_law 348 [a0, a1, a2, a3] (vI x :: vX 0 :: st) mem = evb X (sget X x) m_law 349 [a0, a1, a2, a3] st mem := ke_saload dL_law_348
theorem eL_law_349 : ev X m_law 349 [vR r, a1, a2, a3] st mem = ev X m_law 350 [vR r, a1, a2, a3] (vR r :: st) mem := ke_aload_n rfl dL_law_349
theorem eL_law_349x : ev X m_law 349 [vX r, a1, a2, a3] st mem = ev X m_law 350 [vX r, a1, a2, a3] (vX r :: st) mem := ke_xload_n rfl dL_law_349
theorem eL_law_350 : ev X m_law 350 [a0, a1, a2, vI x] st mem = ev X m_law 351 [a0, a1, a2, vI x] (vI x :: st) mem := ke_iload_n rfl dL_law_350
theorem eL_law_351 : ev X m_law 351 [a0, a1, a2, a3] st mem = ev X m_law 352 [a0, a1, a2, a3] (vI 2 :: st) mem := ke_iconst (by decide) dL_law_351
theorem eL_law_352 : ev X m_law 352 [a0, a1, a2, a3] (vI y :: vI x :: st) mem = ev X m_law 353 [a0, a1, a2, a3] (vI (w32 (x + y)) :: st) mem := ke_iadd dL_law_352
theorem eL_law_353 : ev X m_law 353 [a0, a1, a2, a3] (vI x :: vX 0 :: st) mem = evb X (sget X x) m_law 354 [a0, a1, a2, a3] st mem := ke_saload dL_law_353
theorem eL_law_354 : ev X m_law 354 [a0, a1, a2, a3] (vI n1 :: vI n0 :: vR r :: []) mem = evc X (gR mem r 4 (ev X m_X4_posts 0 [vR r, vI n0, vI n1] [] mem)) m_law 357 [a0, a1, a2, a3] [] := ke_callV (m' := m_X4_posts) (as := [vI n0, vI n1]) (n := 2) (rest := []) dL_law_354 rfl rfl rfl rfl rfl rfl (Nat.le_of_ble_eq_true rfl) (Nat.le_of_ble_eq_true rfl) (Nat.le_of_ble_eq_true rfl) rfl
theorem eL_law_357 : ev X m_law 357 [a0, a1, vR r, a3] st mem = ev X m_law 358 [a0, a1, vR r, a3] (vR r :: st) mem := ke_aload_n rfl dL_law_357
theorem eL_law_357x : ev X m_law 357 [a0, a1, vX r, a3] st mem = ev X m_law 358 [a0, a1, vX r, a3] (vX r :: st) mem := ke_xload_n rfl dL_law_357
theorem eL_law_358 : ev X m_law 358 [vR r, a1, a2, a3] st mem = ev X m_law 359 [vR r, a1, a2, a3] (vR r :: st) mem := ke_aload_n rfl dL_law_358
theorem eL_law_358x : ev X m_law 358 [vX r, a1, a2, a3] st mem = ev X m_law 359 [vX r, a1, a2, a3] (vX r :: st) mem := ke_xload_n rfl dL_law_358
theorem eL_law_359 : ev X m_law 359 [a0, a1, a2, vI x] st mem = ev X m_law 360 [a0, a1, a2, vI x] (vI x :: st) mem := ke_iload_n rfl dL_law_359
theorem eL_law_360 : ev X m_law 360 [a0, a1, a2, a3] st mem = ev X m_law 361 [a0, a1, a2, a3] (vI 1 :: st) mem := ke_iconst (by decide) dL_law_360
theorem eL_law_361 : ev X m_law 361 [a0, a1, a2, a3] (vI y :: vI x :: st) mem = ev X m_law 362 [a0, a1, a2, a3] (vI (w32 (x + y)) :: st) mem := ke_iadd dL_law_361
theorem eL_law_362 : ev X m_law 362 [a0, a1, a2, a3] (vI x :: vX 0 :: st) mem = evb X (sget X x) m_law 363 [a0, a1, a2, a3] st mem := ke_saload dL_law_362
theorem eL_law_363 : ev X m_law 363 [vR r, a1, a2, a3] st mem = ev X m_law 364 [vR r, a1, a2, a3] (vR r :: st) mem := ke_aload_n rfl dL_law_363
theorem eL_law_363x : ev X m_law 363 [vX r, a1, a2, a3] st mem = ev X m_law 364 [vX r, a1, a2, a3] (vX r :: st) mem := ke_xload_n rfl dL_law_363
theorem eL_law_364 : ev X m_law 364 [a0, a1, a2, vI x] st mem = ev X m_law 365 [a0, a1, a2, vI x] (vI x :: st) mem := ke_iload_n rfl dL_law_364
theorem eL_law_365 : ev X m_law 365 [a0, a1, a2, a3] st mem = ev X m_law 366 [a0, a1, a2, a3] (vI 2 :: st) mem := ke_iconst (by decide) dL_law_365
theorem eL_law_366 : ev X m_law 366 [a0, a1, a2, a3] (vI y :: vI x :: st) mem = ev X m_law 367 [a0, a1, a2, a3] (vI (w32 (x + y)) :: st) mem := ke_iadd dL_law_366
theorem eL_law_367 : ev X m_law 367 [a0, a1, a2, a3] (vI x :: vX 0 :: st) mem = evb X (sget X x) m_law 368 [a0, a1, a2, a3] st mem := ke_saload dL_law_367
theorem eL_law_368 : ev X m_law 368 [a0, a1, a2, a3] (vI n1 :: vI n0 :: vR r :: [s0]) mem = evc X (gR mem r 5 (ev X m_X5_posts 0 [vR r, vI n0, vI n1, vS] [] mem)) m_law 371 [a0, a1, a2, a3] [s0] := ke_callV (m' := m_X5_posts) (as := [vI n0, vI n1]) (n := 2) (rest := [s0]) dL_law_368 rfl rfl rfl rfl rfl rfl (Nat.le_of_ble_eq_true rfl) (Nat.le_of_ble_eq_true rfl) (Nat.le_of_ble_eq_true rfl) rfl
theorem eL_law_371 : ev X m_law 371 [a0, a1, a2, a3] (vI y :: vI x :: st) mem = if x = y then ev X m_law 1370 [a0, a1, a2, a3] st mem else ev X m_law 374 [a0, a1, a2, a3] st mem := ke_icmp_eq dL_law_371 rfl
theorem eL_law_374 : ev X m_law 374 [a0, a1, a2, a3] st mem = ev X m_law 375 [a0, a1, a2, a3] (vI 0 :: st) mem := ke_iconst (by decide) dL_law_374
theorem eL_law_375a : ev X m_law 375 [a0, a1, a2, a3] [vI 1] mem = some (some (vI 1), mem) := ke_zreturn dL_law_375 rfl rfl
theorem eL_law_375b : ev X m_law 375 [a0, a1, a2, a3] [vI 0] mem = some (some (vI 0), mem) := ke_zreturn dL_law_375 rfl rfl
theorem eL_law_375c {c : Prop} [Decidable c] : ev X m_law 375 [a0, a1, a2, a3] [vI (if c then 1 else 0)] mem = some (some (vI (if c then 1 else 0)), mem) := ke_zreturn dL_law_375 rfl (by split <;> rfl)
theorem eL_law_376 : ev X m_law 376 [a0, vR r, a2, a3] st mem = ev X m_law 377 [a0, vR r, a2, a3] (vR r :: st) mem := ke_aload_n rfl dL_law_376
theorem eL_law_376x : ev X m_law 376 [a0, vX r, a2, a3] st mem = ev X m_law 377 [a0, vX r, a2, a3] (vX r :: st) mem := ke_xload_n rfl dL_law_376
theorem eL_law_377 : ev X m_law 377 [vR r, a1, a2, a3] st mem = ev X m_law 378 [vR r, a1, a2, a3] (vR r :: st) mem := ke_aload_n rfl dL_law_377
theorem eL_law_377x : ev X m_law 377 [vX r, a1, a2, a3] st mem = ev X m_law 378 [vX r, a1, a2, a3] (vX r :: st) mem := ke_xload_n rfl dL_law_377
theorem eL_law_378 : ev X m_law 378 [a0, a1, a2, vI x] st mem = ev X m_law 379 [a0, a1, a2, vI x] (vI x :: st) mem := ke_iload_n rfl dL_law_378
theorem eL_law_379 : ev X m_law 379 [a0, a1, a2, a3] st mem = ev X m_law 380 [a0, a1, a2, a3] (vI 1 :: st) mem := ke_iconst (by decide) dL_law_379
theorem eL_law_380 : ev X m_law 380 [a0, a1, a2, a3] (vI y :: vI x :: st) mem = ev X m_law 381 [a0, a1, a2, a3] (vI (w32 (x + y)) :: st) mem := ke_iadd dL_law_380
theorem eL_law_381 : ev X m_law 381 [a0, a1, a2, a3] (vI x :: vX 0 :: st) mem = evb X (sget X x) m_law 382 [a0, a1, a2, a3] st mem := ke_saload dL_law_381
theorem eL_law_382 : ev X m_law 382 [vR r, a1, a2, a3] st mem = ev X m_law 383 [vR r, a1, a2, a3] (vR r :: st) mem := ke_aload_n rfl dL_law_382
theorem eL_law_382x : ev X m_law 382 [vX r, a1, a2, a3] st mem = ev X m_law 383 [vX r, a1, a2, a3] (vX r :: st) mem := ke_xload_n rfl dL_law_382
theorem eL_law_383 : ev X m_law 383 [a0, a1, a2, vI x] st mem = ev X m_law 384 [a0, a1, a2, vI x] (vI x :: st) mem := ke_iload_n rfl dL_law_383
theorem eL_law_384 : ev X m_law 384 [a0, a1, a2, a3] st mem = ev X m_law 385 [a0, a1, a2, a3] (vI 2 :: st) mem := ke_iconst (by decide) dL_law_384
theorem eL_law_385 : ev X m_law 385 [a0, a1, a2, a3] (vI y :: vI x :: st) mem = ev X m_law 386 [a0, a1, a2, a3] (vI (w32 (x + y)) :: st) mem := ke_iadd dL_law_385
theorem eL_law_386 : ev X m_law 386 [a0, a1, a2, a3] (vI x :: vX 0 :: st) mem = evb X (sget X x) m_law 387 [a0, a1, a2, a3] st mem := ke_saload dL_law_386
theorem eL_law_387 : ev X m_law 387 [vR r, a1, a2, a3] st mem = ev X m_law 388 [vR r, a1, a2, a3] (vR r :: st) mem := ke_aload_n rfl dL_law_387
theorem eL_law_387x : ev X m_law 387 [vX r, a1, a2, a3] st mem = ev X m_law 388 [vX r, a1, a2, a3] (vX r :: st) mem := ke_xload_n rfl dL_law_387
theorem eL_law_388 : ev X m_law 388 [a0, a1, a2, vI x] st mem = ev X m_law 389 [a0, a1, a2, vI x] (vI x :: st) mem := ke_iload_n rfl dL_law_388
theorem eL_law_389 : ev X m_law 389 [a0, a1, a2, a3] st mem = ev X m_law 390 [a0, a1, a2, a3] (vI 3 :: st) mem := ke_iconst (by decide) dL_law_389
theorem eL_law_390 : ev X m_law 390 [a0, a1, a2, a3] (vI y :: vI x :: st) mem = ev X m_law 391 [a0, a1, a2, a3] (vI (w32 (x + y)) :: st) mem := ke_iadd dL_law_390
theorem eL_law_391 : ev X m_law 391 [a0, a1, a2, a3] (vI x :: vX 0 :: st) mem = evb X (sget X x) m_law 392 [a0, a1, a2, a3] st mem := ke_saload dL_law_391
theorem eL_law_392 : ev X m_law 392 [a0, a1, a2, a3] (vI n2 :: vI n1 :: vI n0 :: vR r :: []) mem = evc X (gR mem r 4 (ev X m_X4_hates 0 [vR r, vI n0, vI n1, vI n2, vS] [] mem)) m_law 395 [a0, a1, a2, a3] [] := ke_callV (m' := m_X4_hates) (as := [vI n0, vI n1, vI n2]) (n := 3) (rest := []) dL_law_392 rfl rfl rfl rfl rfl rfl (Nat.le_of_ble_eq_true rfl) (Nat.le_of_ble_eq_true rfl) (Nat.le_of_ble_eq_true rfl) rfl
theorem eL_law_395 : ev X m_law 395 [a0, a1, vR r, a3] st mem = ev X m_law 396 [a0, a1, vR r, a3] (vR r :: st) mem := ke_aload_n rfl dL_law_395
theorem eL_law_395x : ev X m_law 395 [a0, a1, vX r, a3] st mem = ev X m_law 396 [a0, a1, vX r, a3] (vX r :: st) mem := ke_xload_n rfl dL_law_395
theorem eL_law_396 : ev X m_law 396 [vR r, a1, a2, a3] st mem = ev X m_law 397 [vR r, a1, a2, a3] (vR r :: st) mem := ke_aload_n rfl dL_law_396
theorem eL_law_396x : ev X m_law 396 [vX r, a1, a2, a3] st mem = ev X m_law 397 [vX r, a1, a2, a3] (vX r :: st) mem := ke_xload_n rfl dL_law_396
theorem eL_law_397 : ev X m_law 397 [a0, a1, a2, vI x] st mem = ev X m_law 398 [a0, a1, a2, vI x] (vI x :: st) mem := ke_iload_n rfl dL_law_397
theorem eL_law_398 : ev X m_law 398 [a0, a1, a2, a3] st mem = ev X m_law 399 [a0, a1, a2, a3] (vI 1 :: st) mem := ke_iconst (by decide) dL_law_398
theorem eL_law_399 : ev X m_law 399 [a0, a1, a2, a3] (vI y :: vI x :: st) mem = ev X m_law 400 [a0, a1, a2, a3] (vI (w32 (x + y)) :: st) mem := ke_iadd dL_law_399
theorem eL_law_400 : ev X m_law 400 [a0, a1, a2, a3] (vI x :: vX 0 :: st) mem = evb X (sget X x) m_law 401 [a0, a1, a2, a3] st mem := ke_saload dL_law_400
theorem eL_law_401 : ev X m_law 401 [vR r, a1, a2, a3] st mem = ev X m_law 402 [vR r, a1, a2, a3] (vR r :: st) mem := ke_aload_n rfl dL_law_401
theorem eL_law_401x : ev X m_law 401 [vX r, a1, a2, a3] st mem = ev X m_law 402 [vX r, a1, a2, a3] (vX r :: st) mem := ke_xload_n rfl dL_law_401
theorem eL_law_402 : ev X m_law 402 [a0, a1, a2, vI x] st mem = ev X m_law 403 [a0, a1, a2, vI x] (vI x :: st) mem := ke_iload_n rfl dL_law_402
theorem eL_law_403 : ev X m_law 403 [a0, a1, a2, a3] st mem = ev X m_law 404 [a0, a1, a2, a3] (vI 2 :: st) mem := ke_iconst (by decide) dL_law_403
theorem eL_law_404 : ev X m_law 404 [a0, a1, a2, a3] (vI y :: vI x :: st) mem = ev X m_law 405 [a0, a1, a2, a3] (vI (w32 (x + y)) :: st) mem := ke_iadd dL_law_404
theorem eL_law_405 : ev X m_law 405 [a0, a1, a2, a3] (vI x :: vX 0 :: st) mem = evb X (sget X x) m_law 406 [a0, a1, a2, a3] st mem := ke_saload dL_law_405
theorem eL_law_406 : ev X m_law 406 [vR r, a1, a2, a3] st mem = ev X m_law 407 [vR r, a1, a2, a3] (vR r :: st) mem := ke_aload_n rfl dL_law_406
theorem eL_law_406x : ev X m_law 406 [vX r, a1, a2, a3] st mem = ev X m_law 407 [vX r, a1, a2, a3] (vX r :: st) mem := ke_xload_n rfl dL_law_406
theorem eL_law_407 : ev X m_law 407 [a0, a1, a2, vI x] st mem = ev X m_law 408 [a0, a1, a2, vI x] (vI x :: st) mem := ke_iload_n rfl dL_law_407
theorem eL_law_408 : ev X m_law 408 [a0, a1, a2, a3] st mem = ev X m_law 409 [a0, a1, a2, a3] (vI 3 :: st) mem := ke_iconst (by decide) dL_law_408
theorem eL_law_409 : ev X m_law 409 [a0, a1, a2, a3] (vI y :: vI x :: st) mem = ev X m_law 410 [a0, a1, a2, a3] (vI (w32 (x + y)) :: st) mem := ke_iadd dL_law_409
theorem eL_law_410 : ev X m_law 410 [a0, a1, a2, a3] (vI x :: vX 0 :: st) mem = evb X (sget X x) m_law 411 [a0, a1, a2, a3] st mem := ke_saload dL_law_410
theorem eL_law_411 : ev X m_law 411 [a0, a1, a2, a3] (vI n2 :: vI n1 :: vI n0 :: vR r :: [s0]) mem = evc X (gR mem r 5 (ev X m_X5_hates 0 [vR r, vI n0, vI n1, vI n2, vS, vS] [] mem)) m_law 414 [a0, a1, a2, a3] [s0] := ke_callV (m' := m_X5_hates) (as := [vI n0, vI n1, vI n2]) (n := 3) (rest := [s0]) dL_law_411 rfl rfl rfl rfl rfl rfl (Nat.le_of_ble_eq_true rfl) (Nat.le_of_ble_eq_true rfl) (Nat.le_of_ble_eq_true rfl) rfl
theorem eL_law_414 : ev X m_law 414 [a0, a1, a2, a3] (vI y :: vI x :: st) mem = if x = y then ev X m_law 1370 [a0, a1, a2, a3] st mem else ev X m_law 417 [a0, a1, a2, a3] st mem := ke_icmp_eq dL_law_414 rfl
theorem eL_law_417 : ev X m_law 417 [a0, a1, a2, a3] st mem = ev X m_law 418 [a0, a1, a2, a3] (vI 0 :: st) mem := ke_iconst (by decide) dL_law_417
theorem eL_law_418a : ev X m_law 418 [a0, a1, a2, a3] [vI 1] mem = some (some (vI 1), mem) := ke_zreturn dL_law_418 rfl rfl
theorem eL_law_418b : ev X m_law 418 [a0, a1, a2, a3] [vI 0] mem = some (some (vI 0), mem) := ke_zreturn dL_law_418 rfl rfl
theorem eL_law_418c {c : Prop} [Decidable c] : ev X m_law 418 [a0, a1, a2, a3] [vI (if c then 1 else 0)] mem = some (some (vI (if c then 1 else 0)), mem) := ke_zreturn dL_law_418 rfl (by split <;> rfl)
theorem eL_law_419 : ev X m_law 419 [a0, vR r, a2, a3] st mem = ev X m_law 420 [a0, vR r, a2, a3] (vR r :: st) mem := ke_aload_n rfl dL_law_419
theorem eL_law_419x : ev X m_law 419 [a0, vX r, a2, a3] st mem = ev X m_law 420 [a0, vX r, a2, a3] (vX r :: st) mem := ke_xload_n rfl dL_law_419
theorem eL_law_420 : ev X m_law 420 [vR r, a1, a2, a3] st mem = ev X m_law 421 [vR r, a1, a2, a3] (vR r :: st) mem := ke_aload_n rfl dL_law_420
theorem eL_law_420x : ev X m_law 420 [vX r, a1, a2, a3] st mem = ev X m_law 421 [vX r, a1, a2, a3] (vX r :: st) mem := ke_xload_n rfl dL_law_420
theorem eL_law_421 : ev X m_law 421 [a0, a1, a2, vI x] st mem = ev X m_law 422 [a0, a1, a2, vI x] (vI x :: st) mem := ke_iload_n rfl dL_law_421
theorem eL_law_422 : ev X m_law 422 [a0, a1, a2, a3] st mem = ev X m_law 423 [a0, a1, a2, a3] (vI 1 :: st) mem := ke_iconst (by decide) dL_law_422
theorem eL_law_423 : ev X m_law 423 [a0, a1, a2, a3] (vI y :: vI x :: st) mem = ev X m_law 424 [a0, a1, a2, a3] (vI (w32 (x + y)) :: st) mem := ke_iadd dL_law_423
theorem eL_law_424 : ev X m_law 424 [a0, a1, a2, a3] (vI x :: vX 0 :: st) mem = evb X (sget X x) m_law 425 [a0, a1, a2, a3] st mem := ke_saload dL_law_424
theorem eL_law_425 : ev X m_law 425 [vR r, a1, a2, a3] st mem = ev X m_law 426 [vR r, a1, a2, a3] (vR r :: st) mem := ke_aload_n rfl dL_law_425
theorem eL_law_425x : ev X m_law 425 [vX r, a1, a2, a3] st mem = ev X m_law 426 [vX r, a1, a2, a3] (vX r :: st) mem := ke_xload_n rfl dL_law_425
theorem eL_law_426 : ev X m_law 426 [a0, a1, a2, vI x] st mem = ev X m_law 427 [a0, a1, a2, vI x] (vI x :: st) mem := ke_iload_n rfl dL_law_426
theorem eL_law_427 : ev X m_law 427 [a0, a1, a2, a3] st mem = ev X m_law 428 [a0, a1, a2, a3] (vI 2 :: st) mem := ke_iconst (by decide) dL_law_427
theorem eL_law_428 : ev X m_law 428 [a0, a1, a2, a3] (vI y :: vI x :: st) mem = ev X m_law 429 [a0, a1, a2, a3] (vI (w32 (x + y)) :: st) mem := ke_iadd dL_law_428
theorem eL_law_429 : ev X m_law 429 [a0, a1, a2, a3] (vI x :: vX 0 :: st) mem = evb X (sget X x) m_law 430 [a0, a1, a2, a3] st mem := ke_saload dL_law_429
theorem eL_law_430 : ev X m_law 430 [a0, a1, a2, a3] (vI n1 :: vI n0 :: vR r :: []) mem = evc X (gR mem r 4 (ev X m_X4_slights 0 [vR r, vI n0, vI n1] [] mem)) m_law 433 [a0, a1, a2, a3] [] := ke_callV (m' := m_X4_slights) (as := [vI n0, vI n1]) (n := 2) (rest := []) dL_law_430 rfl rfl rfl rfl rfl rfl (Nat.le_of_ble_eq_true rfl) (Nat.le_of_ble_eq_true rfl) (Nat.le_of_ble_eq_true rfl) rfl
theorem eL_law_433 : ev X m_law 433 [a0, a1, vR r, a3] st mem = ev X m_law 434 [a0, a1, vR r, a3] (vR r :: st) mem := ke_aload_n rfl dL_law_433
theorem eL_law_433x : ev X m_law 433 [a0, a1, vX r, a3] st mem = ev X m_law 434 [a0, a1, vX r, a3] (vX r :: st) mem := ke_xload_n rfl dL_law_433
theorem eL_law_434 : ev X m_law 434 [vR r, a1, a2, a3] st mem = ev X m_law 435 [vR r, a1, a2, a3] (vR r :: st) mem := ke_aload_n rfl dL_law_434
theorem eL_law_434x : ev X m_law 434 [vX r, a1, a2, a3] st mem = ev X m_law 435 [vX r, a1, a2, a3] (vX r :: st) mem := ke_xload_n rfl dL_law_434
theorem eL_law_435 : ev X m_law 435 [a0, a1, a2, vI x] st mem = ev X m_law 436 [a0, a1, a2, vI x] (vI x :: st) mem := ke_iload_n rfl dL_law_435
theorem eL_law_436 : ev X m_law 436 [a0, a1, a2, a3] st mem = ev X m_law 437 [a0, a1, a2, a3] (vI 1 :: st) mem := ke_iconst (by decide) dL_law_436
theorem eL_law_437 : ev X m_law 437 [a0, a1, a2, a3] (vI y :: vI x :: st) mem = ev X m_law 438 [a0, a1, a2, a3] (vI (w32 (x + y)) :: st) mem := ke_iadd dL_law_437
theorem eL_law_438 : ev X m_law 438 [a0, a1, a2, a3] (vI x :: vX 0 :: st) mem = evb X (sget X x) m_law 439 [a0, a1, a2, a3] st mem := ke_saload dL_law_438
theorem eL_law_439 : ev X m_law 439 [vR r, a1, a2, a3] st mem = ev X m_law 440 [vR r, a1, a2, a3] (vR r :: st) mem := ke_aload_n rfl dL_law_439
theorem eL_law_439x : ev X m_law 439 [vX r, a1, a2, a3] st mem = ev X m_law 440 [vX r, a1, a2, a3] (vX r :: st) mem := ke_xload_n rfl dL_law_439
theorem eL_law_440 : ev X m_law 440 [a0, a1, a2, vI x] st mem = ev X m_law 441 [a0, a1, a2, vI x] (vI x :: st) mem := ke_iload_n rfl dL_law_440
theorem eL_law_441 : ev X m_law 441 [a0, a1, a2, a3] st mem = ev X m_law 442 [a0, a1, a2, a3] (vI 2 :: st) mem := ke_iconst (by decide) dL_law_441
theorem eL_law_442 : ev X m_law 442 [a0, a1, a2, a3] (vI y :: vI x :: st) mem = ev X m_law 443 [a0, a1, a2, a3] (vI (w32 (x + y)) :: st) mem := ke_iadd dL_law_442
theorem eL_law_443 : ev X m_law 443 [a0, a1, a2, a3] (vI x :: vX 0 :: st) mem = evb X (sget X x) m_law 444 [a0, a1, a2, a3] st mem := ke_saload dL_law_443
theorem eL_law_444 : ev X m_law 444 [a0, a1, a2, a3] (vI n1 :: vI n0 :: vR r :: [s0]) mem = evc X (gR mem r 5 (ev X m_X5_slights 0 [vR r, vI n0, vI n1] [] mem)) m_law 447 [a0, a1, a2, a3] [s0] := ke_callV (m' := m_X5_slights) (as := [vI n0, vI n1]) (n := 2) (rest := [s0]) dL_law_444 rfl rfl rfl rfl rfl rfl (Nat.le_of_ble_eq_true rfl) (Nat.le_of_ble_eq_true rfl) (Nat.le_of_ble_eq_true rfl) rfl
theorem eL_law_447 : ev X m_law 447 [a0, a1, a2, a3] (vI y :: vI x :: st) mem = if x = y then ev X m_law 1370 [a0, a1, a2, a3] st mem else ev X m_law 450 [a0, a1, a2, a3] st mem := ke_icmp_eq dL_law_447 rfl
theorem eL_law_450 : ev X m_law 450 [a0, a1, a2, a3] st mem = ev X m_law 451 [a0, a1, a2, a3] (vI 0 :: st) mem := ke_iconst (by decide) dL_law_450
theorem eL_law_451a : ev X m_law 451 [a0, a1, a2, a3] [vI 1] mem = some (some (vI 1), mem) := ke_zreturn dL_law_451 rfl rfl
theorem eL_law_451b : ev X m_law 451 [a0, a1, a2, a3] [vI 0] mem = some (some (vI 0), mem) := ke_zreturn dL_law_451 rfl rfl
theorem eL_law_451c {c : Prop} [Decidable c] : ev X m_law 451 [a0, a1, a2, a3] [vI (if c then 1 else 0)] mem = some (some (vI (if c then 1 else 0)), mem) := ke_zreturn dL_law_451 rfl (by split <;> rfl)
theorem eL_law_452 : ev X m_law 452 [a0, vR r, a2, a3] st mem = ev X m_law 453 [a0, vR r, a2, a3] (vR r :: st) mem := ke_aload_n rfl dL_law_452
theorem eL_law_452x : ev X m_law 452 [a0, vX r, a2, a3] st mem = ev X m_law 453 [a0, vX r, a2, a3] (vX r :: st) mem := ke_xload_n rfl dL_law_452
theorem eL_law_453 : ev X m_law 453 [vR r, a1, a2, a3] st mem = ev X m_law 454 [vR r, a1, a2, a3] (vR r :: st) mem := ke_aload_n rfl dL_law_453
theorem eL_law_453x : ev X m_law 453 [vX r, a1, a2, a3] st mem = ev X m_law 454 [vX r, a1, a2, a3] (vX r :: st) mem := ke_xload_n rfl dL_law_453
theorem eL_law_454 : ev X m_law 454 [a0, a1, a2, vI x] st mem = ev X m_law 455 [a0, a1, a2, vI x] (vI x :: st) mem := ke_iload_n rfl dL_law_454
theorem eL_law_455 : ev X m_law 455 [a0, a1, a2, a3] st mem = ev X m_law 456 [a0, a1, a2, a3] (vI 1 :: st) mem := ke_iconst (by decide) dL_law_455
theorem eL_law_456 : ev X m_law 456 [a0, a1, a2, a3] (vI y :: vI x :: st) mem = ev X m_law 457 [a0, a1, a2, a3] (vI (w32 (x + y)) :: st) mem := ke_iadd dL_law_456
theorem eL_law_457 : ev X m_law 457 [a0, a1, a2, a3] (vI x :: vX 0 :: st) mem = evb X (sget X x) m_law 458 [a0, a1, a2, a3] st mem := ke_saload dL_law_457
theorem eL_law_458 : ev X m_law 458 [vR r, a1, a2, a3] st mem = ev X m_law 459 [vR r, a1, a2, a3] (vR r :: st) mem := ke_aload_n rfl dL_law_458
theorem eL_law_458x : ev X m_law 458 [vX r, a1, a2, a3] st mem = ev X m_law 459 [vX r, a1, a2, a3] (vX r :: st) mem := ke_xload_n rfl dL_law_458
theorem eL_law_459 : ev X m_law 459 [a0, a1, a2, vI x] st mem = ev X m_law 460 [a0, a1, a2, vI x] (vI x :: st) mem := ke_iload_n rfl dL_law_459
theorem eL_law_460 : ev X m_law 460 [a0, a1, a2, a3] st mem = ev X m_law 461 [a0, a1, a2, a3] (vI 2 :: st) mem := ke_iconst (by decide) dL_law_460
theorem eL_law_461 : ev X m_law 461 [a0, a1, a2, a3] (vI y :: vI x :: st) mem = ev X m_law 462 [a0, a1, a2, a3] (vI (w32 (x + y)) :: st) mem := ke_iadd dL_law_461
theorem eL_law_462 : ev X m_law 462 [a0, a1, a2, a3] (vI x :: vX 0 :: st) mem = evb X (sget X x) m_law 463 [a0, a1, a2, a3] st mem := ke_saload dL_law_462
theorem eL_law_463 : ev X m_law 463 [a0, a1, a2, a3] (vI n1 :: vI n0 :: vR r :: []) mem = evc X (gR mem r 4 (ev X m_X4_peace 0 [vR r, vI n0, vI n1] [] mem)) m_law 466 [a0, a1, a2, a3] [] := ke_callV (m' := m_X4_peace) (as := [vI n0, vI n1]) (n := 2) (rest := []) dL_law_463 rfl rfl rfl rfl rfl rfl (Nat.le_of_ble_eq_true rfl) (Nat.le_of_ble_eq_true rfl) (Nat.le_of_ble_eq_true rfl) rfl
theorem eL_law_466 : ev X m_law 466 [a0, a1, vR r, a3] st mem = ev X m_law 467 [a0, a1, vR r, a3] (vR r :: st) mem := ke_aload_n rfl dL_law_466
theorem eL_law_466x : ev X m_law 466 [a0, a1, vX r, a3] st mem = ev X m_law 467 [a0, a1, vX r, a3] (vX r :: st) mem := ke_xload_n rfl dL_law_466
theorem eL_law_467 : ev X m_law 467 [vR r, a1, a2, a3] st mem = ev X m_law 468 [vR r, a1, a2, a3] (vR r :: st) mem := ke_aload_n rfl dL_law_467
theorem eL_law_467x : ev X m_law 467 [vX r, a1, a2, a3] st mem = ev X m_law 468 [vX r, a1, a2, a3] (vX r :: st) mem := ke_xload_n rfl dL_law_467
theorem eL_law_468 : ev X m_law 468 [a0, a1, a2, vI x] st mem = ev X m_law 469 [a0, a1, a2, vI x] (vI x :: st) mem := ke_iload_n rfl dL_law_468
theorem eL_law_469 : ev X m_law 469 [a0, a1, a2, a3] st mem = ev X m_law 470 [a0, a1, a2, a3] (vI 1 :: st) mem := ke_iconst (by decide) dL_law_469
theorem eL_law_470 : ev X m_law 470 [a0, a1, a2, a3] (vI y :: vI x :: st) mem = ev X m_law 471 [a0, a1, a2, a3] (vI (w32 (x + y)) :: st) mem := ke_iadd dL_law_470
theorem eL_law_471 : ev X m_law 471 [a0, a1, a2, a3] (vI x :: vX 0 :: st) mem = evb X (sget X x) m_law 472 [a0, a1, a2, a3] st mem := ke_saload dL_law_471
theorem eL_law_472 : ev X m_law 472 [vR r, a1, a2, a3] st mem = ev X m_law 473 [vR r, a1, a2, a3] (vR r :: st) mem := ke_aload_n rfl dL_law_472
theorem eL_law_472x : ev X m_law 472 [vX r, a1, a2, a3] st mem = ev X m_law 473 [vX r, a1, a2, a3] (vX r :: st) mem := ke_xload_n rfl dL_law_472
theorem eL_law_473 : ev X m_law 473 [a0, a1, a2, vI x] st mem = ev X m_law 474 [a0, a1, a2, vI x] (vI x :: st) mem := ke_iload_n rfl dL_law_473
theorem eL_law_474 : ev X m_law 474 [a0, a1, a2, a3] st mem = ev X m_law 475 [a0, a1, a2, a3] (vI 2 :: st) mem := ke_iconst (by decide) dL_law_474
theorem eL_law_475 : ev X m_law 475 [a0, a1, a2, a3] (vI y :: vI x :: st) mem = ev X m_law 476 [a0, a1, a2, a3] (vI (w32 (x + y)) :: st) mem := ke_iadd dL_law_475
theorem eL_law_476 : ev X m_law 476 [a0, a1, a2, a3] (vI x :: vX 0 :: st) mem = evb X (sget X x) m_law 477 [a0, a1, a2, a3] st mem := ke_saload dL_law_476
theorem eL_law_477 : ev X m_law 477 [a0, a1, a2, a3] (vI n1 :: vI n0 :: vR r :: [s0]) mem = evc X (gR mem r 5 (ev X m_X5_peace 0 [vR r, vI n0, vI n1] [] mem)) m_law 480 [a0, a1, a2, a3] [s0] := ke_callV (m' := m_X5_peace) (as := [vI n0, vI n1]) (n := 2) (rest := [s0]) dL_law_477 rfl rfl rfl rfl rfl rfl (Nat.le_of_ble_eq_true rfl) (Nat.le_of_ble_eq_true rfl) (Nat.le_of_ble_eq_true rfl) rfl
theorem eL_law_480 : ev X m_law 480 [a0, a1, a2, a3] (vI y :: vI x :: st) mem = if x = y then ev X m_law 1370 [a0, a1, a2, a3] st mem else ev X m_law 483 [a0, a1, a2, a3] st mem := ke_icmp_eq dL_law_480 rfl
theorem eL_law_483 : ev X m_law 483 [a0, a1, a2, a3] st mem = ev X m_law 484 [a0, a1, a2, a3] (vI 0 :: st) mem := ke_iconst (by decide) dL_law_483
theorem eL_law_484a : ev X m_law 484 [a0, a1, a2, a3] [vI 1] mem = some (some (vI 1), mem) := ke_zreturn dL_law_484 rfl rfl
theorem eL_law_484b : ev X m_law 484 [a0, a1, a2, a3] [vI 0] mem = some (some (vI 0), mem) := ke_zreturn dL_law_484 rfl rfl
theorem eL_law_484c {c : Prop} [Decidable c] : ev X m_law 484 [a0, a1, a2, a3] [vI (if c then 1 else 0)] mem = some (some (vI (if c then 1 else 0)), mem) := ke_zreturn dL_law_484 rfl (by split <;> rfl)
theorem eL_law_485 : ev X m_law 485 [a0, vR r, a2, a3] st mem = ev X m_law 486 [a0, vR r, a2, a3] (vR r :: st) mem := ke_aload_n rfl dL_law_485
theorem eL_law_485x : ev X m_law 485 [a0, vX r, a2, a3] st mem = ev X m_law 486 [a0, vX r, a2, a3] (vX r :: st) mem := ke_xload_n rfl dL_law_485
theorem eL_law_486 : ev X m_law 486 [vR r, a1, a2, a3] st mem = ev X m_law 487 [vR r, a1, a2, a3] (vR r :: st) mem := ke_aload_n rfl dL_law_486
theorem eL_law_486x : ev X m_law 486 [vX r, a1, a2, a3] st mem = ev X m_law 487 [vX r, a1, a2, a3] (vX r :: st) mem := ke_xload_n rfl dL_law_486
theorem eL_law_487 : ev X m_law 487 [a0, a1, a2, vI x] st mem = ev X m_law 488 [a0, a1, a2, vI x] (vI x :: st) mem := ke_iload_n rfl dL_law_487
theorem eL_law_488 : ev X m_law 488 [a0, a1, a2, a3] st mem = ev X m_law 489 [a0, a1, a2, a3] (vI 1 :: st) mem := ke_iconst (by decide) dL_law_488
theorem eL_law_489 : ev X m_law 489 [a0, a1, a2, a3] (vI y :: vI x :: st) mem = ev X m_law 490 [a0, a1, a2, a3] (vI (w32 (x + y)) :: st) mem := ke_iadd dL_law_489
theorem eL_law_490 : ev X m_law 490 [a0, a1, a2, a3] (vI x :: vX 0 :: st) mem = evb X (sget X x) m_law 491 [a0, a1, a2, a3] st mem := ke_saload dL_law_490
theorem eL_law_491 : ev X m_law 491 [vR r, a1, a2, a3] st mem = ev X m_law 492 [vR r, a1, a2, a3] (vR r :: st) mem := ke_aload_n rfl dL_law_491
theorem eL_law_491x : ev X m_law 491 [vX r, a1, a2, a3] st mem = ev X m_law 492 [vX r, a1, a2, a3] (vX r :: st) mem := ke_xload_n rfl dL_law_491
theorem eL_law_492 : ev X m_law 492 [a0, a1, a2, vI x] st mem = ev X m_law 493 [a0, a1, a2, vI x] (vI x :: st) mem := ke_iload_n rfl dL_law_492
theorem eL_law_493 : ev X m_law 493 [a0, a1, a2, a3] st mem = ev X m_law 494 [a0, a1, a2, a3] (vI 2 :: st) mem := ke_iconst (by decide) dL_law_493
theorem eL_law_494 : ev X m_law 494 [a0, a1, a2, a3] (vI y :: vI x :: st) mem = ev X m_law 495 [a0, a1, a2, a3] (vI (w32 (x + y)) :: st) mem := ke_iadd dL_law_494
theorem eL_law_495 : ev X m_law 495 [a0, a1, a2, a3] (vI x :: vX 0 :: st) mem = evb X (sget X x) m_law 496 [a0, a1, a2, a3] st mem := ke_saload dL_law_495
theorem eL_law_496 : ev X m_law 496 [a0, a1, a2, a3] (vI n1 :: vI n0 :: vR r :: []) mem = evc X (gR mem r 4 (ev X m_X4_moves 0 [vR r, vI n0, vI n1, vS] [] mem)) m_law 499 [a0, a1, a2, a3] [] := ke_callV (m' := m_X4_moves) (as := [vI n0, vI n1]) (n := 2) (rest := []) dL_law_496 rfl rfl rfl rfl rfl rfl (Nat.le_of_ble_eq_true rfl) (Nat.le_of_ble_eq_true rfl) (Nat.le_of_ble_eq_true rfl) rfl
theorem eL_law_499 : ev X m_law 499 [a0, a1, vR r, a3] st mem = ev X m_law 500 [a0, a1, vR r, a3] (vR r :: st) mem := ke_aload_n rfl dL_law_499
theorem eL_law_499x : ev X m_law 499 [a0, a1, vX r, a3] st mem = ev X m_law 500 [a0, a1, vX r, a3] (vX r :: st) mem := ke_xload_n rfl dL_law_499
theorem eL_law_500 : ev X m_law 500 [vR r, a1, a2, a3] st mem = ev X m_law 501 [vR r, a1, a2, a3] (vR r :: st) mem := ke_aload_n rfl dL_law_500
theorem eL_law_500x : ev X m_law 500 [vX r, a1, a2, a3] st mem = ev X m_law 501 [vX r, a1, a2, a3] (vX r :: st) mem := ke_xload_n rfl dL_law_500
theorem eL_law_501 : ev X m_law 501 [a0, a1, a2, vI x] st mem = ev X m_law 502 [a0, a1, a2, vI x] (vI x :: st) mem := ke_iload_n rfl dL_law_501
theorem eL_law_502 : ev X m_law 502 [a0, a1, a2, a3] st mem = ev X m_law 503 [a0, a1, a2, a3] (vI 1 :: st) mem := ke_iconst (by decide) dL_law_502
theorem eL_law_503 : ev X m_law 503 [a0, a1, a2, a3] (vI y :: vI x :: st) mem = ev X m_law 504 [a0, a1, a2, a3] (vI (w32 (x + y)) :: st) mem := ke_iadd dL_law_503
theorem eL_law_504 : ev X m_law 504 [a0, a1, a2, a3] (vI x :: vX 0 :: st) mem = evb X (sget X x) m_law 505 [a0, a1, a2, a3] st mem := ke_saload dL_law_504
theorem eL_law_505 : ev X m_law 505 [vR r, a1, a2, a3] st mem = ev X m_law 506 [vR r, a1, a2, a3] (vR r :: st) mem := ke_aload_n rfl dL_law_505
theorem eL_law_505x : ev X m_law 505 [vX r, a1, a2, a3] st mem = ev X m_law 506 [vX r, a1, a2, a3] (vX r :: st) mem := ke_xload_n rfl dL_law_505
theorem eL_law_506 : ev X m_law 506 [a0, a1, a2, vI x] st mem = ev X m_law 507 [a0, a1, a2, vI x] (vI x :: st) mem := ke_iload_n rfl dL_law_506
theorem eL_law_507 : ev X m_law 507 [a0, a1, a2, a3] st mem = ev X m_law 508 [a0, a1, a2, a3] (vI 2 :: st) mem := ke_iconst (by decide) dL_law_507
theorem eL_law_508 : ev X m_law 508 [a0, a1, a2, a3] (vI y :: vI x :: st) mem = ev X m_law 509 [a0, a1, a2, a3] (vI (w32 (x + y)) :: st) mem := ke_iadd dL_law_508
theorem eL_law_509 : ev X m_law 509 [a0, a1, a2, a3] (vI x :: vX 0 :: st) mem = evb X (sget X x) m_law 510 [a0, a1, a2, a3] st mem := ke_saload dL_law_509
theorem eL_law_510 : ev X m_law 510 [a0, a1, a2, a3] (vI n1 :: vI n0 :: vR r :: [s0]) mem = evc X (gR mem r 5 (ev X m_X5_moves 0 [vR r, vI n0, vI n1, vS, vS] [] mem)) m_law 513 [a0, a1, a2, a3] [s0] := ke_callV (m' := m_X5_moves) (as := [vI n0, vI n1]) (n := 2) (rest := [s0]) dL_law_510 rfl rfl rfl rfl rfl rfl (Nat.le_of_ble_eq_true rfl) (Nat.le_of_ble_eq_true rfl) (Nat.le_of_ble_eq_true rfl) rfl
theorem eL_law_513 : ev X m_law 513 [a0, a1, a2, a3] (vI y :: vI x :: st) mem = if x = y then ev X m_law 1370 [a0, a1, a2, a3] st mem else ev X m_law 516 [a0, a1, a2, a3] st mem := ke_icmp_eq dL_law_513 rfl
theorem eL_law_516 : ev X m_law 516 [a0, a1, a2, a3] st mem = ev X m_law 517 [a0, a1, a2, a3] (vI 0 :: st) mem := ke_iconst (by decide) dL_law_516
theorem eL_law_517a : ev X m_law 517 [a0, a1, a2, a3] [vI 1] mem = some (some (vI 1), mem) := ke_zreturn dL_law_517 rfl rfl
theorem eL_law_517b : ev X m_law 517 [a0, a1, a2, a3] [vI 0] mem = some (some (vI 0), mem) := ke_zreturn dL_law_517 rfl rfl
theorem eL_law_517c {c : Prop} [Decidable c] : ev X m_law 517 [a0, a1, a2, a3] [vI (if c then 1 else 0)] mem = some (some (vI (if c then 1 else 0)), mem) := ke_zreturn dL_law_517 rfl (by split <;> rfl)
theorem eL_law_518 : ev X m_law 518 [a0, vR r, a2, a3] st mem = ev X m_law 519 [a0, vR r, a2, a3] (vR r :: st) mem := ke_aload_n rfl dL_law_518
theorem eL_law_518x : ev X m_law 518 [a0, vX r, a2, a3] st mem = ev X m_law 519 [a0, vX r, a2, a3] (vX r :: st) mem := ke_xload_n rfl dL_law_518
theorem eL_law_519 : ev X m_law 519 [vR r, a1, a2, a3] st mem = ev X m_law 520 [vR r, a1, a2, a3] (vR r :: st) mem := ke_aload_n rfl dL_law_519
theorem eL_law_519x : ev X m_law 519 [vX r, a1, a2, a3] st mem = ev X m_law 520 [vX r, a1, a2, a3] (vX r :: st) mem := ke_xload_n rfl dL_law_519
theorem eL_law_520 : ev X m_law 520 [a0, a1, a2, vI x] st mem = ev X m_law 521 [a0, a1, a2, vI x] (vI x :: st) mem := ke_iload_n rfl dL_law_520
theorem eL_law_521 : ev X m_law 521 [a0, a1, a2, a3] st mem = ev X m_law 522 [a0, a1, a2, a3] (vI 1 :: st) mem := ke_iconst (by decide) dL_law_521
theorem eL_law_522 : ev X m_law 522 [a0, a1, a2, a3] (vI y :: vI x :: st) mem = ev X m_law 523 [a0, a1, a2, a3] (vI (w32 (x + y)) :: st) mem := ke_iadd dL_law_522
theorem eL_law_523 : ev X m_law 523 [a0, a1, a2, a3] (vI x :: vX 0 :: st) mem = evb X (sget X x) m_law 524 [a0, a1, a2, a3] st mem := ke_saload dL_law_523
theorem eL_law_524 : ev X m_law 524 [vR r, a1, a2, a3] st mem = ev X m_law 525 [vR r, a1, a2, a3] (vR r :: st) mem := ke_aload_n rfl dL_law_524
theorem eL_law_524x : ev X m_law 524 [vX r, a1, a2, a3] st mem = ev X m_law 525 [vX r, a1, a2, a3] (vX r :: st) mem := ke_xload_n rfl dL_law_524
theorem eL_law_525 : ev X m_law 525 [a0, a1, a2, vI x] st mem = ev X m_law 526 [a0, a1, a2, vI x] (vI x :: st) mem := ke_iload_n rfl dL_law_525
theorem eL_law_526 : ev X m_law 526 [a0, a1, a2, a3] st mem = ev X m_law 527 [a0, a1, a2, a3] (vI 2 :: st) mem := ke_iconst (by decide) dL_law_526
theorem eL_law_527 : ev X m_law 527 [a0, a1, a2, a3] (vI y :: vI x :: st) mem = ev X m_law 528 [a0, a1, a2, a3] (vI (w32 (x + y)) :: st) mem := ke_iadd dL_law_527
theorem eL_law_528 : ev X m_law 528 [a0, a1, a2, a3] (vI x :: vX 0 :: st) mem = evb X (sget X x) m_law 529 [a0, a1, a2, a3] st mem := ke_saload dL_law_528
theorem eL_law_529 : ev X m_law 529 [vR r, a1, a2, a3] st mem = ev X m_law 530 [vR r, a1, a2, a3] (vR r :: st) mem := ke_aload_n rfl dL_law_529
theorem eL_law_529x : ev X m_law 529 [vX r, a1, a2, a3] st mem = ev X m_law 530 [vX r, a1, a2, a3] (vX r :: st) mem := ke_xload_n rfl dL_law_529
theorem eL_law_530 : ev X m_law 530 [a0, a1, a2, vI x] st mem = ev X m_law 531 [a0, a1, a2, vI x] (vI x :: st) mem := ke_iload_n rfl dL_law_530
theorem eL_law_531 : ev X m_law 531 [a0, a1, a2, a3] st mem = ev X m_law 532 [a0, a1, a2, a3] (vI 3 :: st) mem := ke_iconst (by decide) dL_law_531
theorem eL_law_532 : ev X m_law 532 [a0, a1, a2, a3] (vI y :: vI x :: st) mem = ev X m_law 533 [a0, a1, a2, a3] (vI (w32 (x + y)) :: st) mem := ke_iadd dL_law_532
theorem eL_law_533 : ev X m_law 533 [a0, a1, a2, a3] (vI x :: vX 0 :: st) mem = evb X (sget X x) m_law 534 [a0, a1, a2, a3] st mem := ke_saload dL_law_533
theorem eL_law_534 : ev X m_law 534 [a0, a1, a2, a3] (vI n2 :: vI n1 :: vI n0 :: vR r :: []) mem = evc X (gR mem r 4 (ev X m_X4_turn 0 [vR r, vI n0, vI n1, vI n2, vS] [] mem)) m_law 537 [a0, a1, a2, a3] [] := ke_callV (m' := m_X4_turn) (as := [vI n0, vI n1, vI n2]) (n := 3) (rest := []) dL_law_534 rfl rfl rfl rfl rfl rfl (Nat.le_of_ble_eq_true rfl) (Nat.le_of_ble_eq_true rfl) (Nat.le_of_ble_eq_true rfl) rfl
theorem eL_law_537 : ev X m_law 537 [a0, a1, vR r, a3] st mem = ev X m_law 538 [a0, a1, vR r, a3] (vR r :: st) mem := ke_aload_n rfl dL_law_537
theorem eL_law_537x : ev X m_law 537 [a0, a1, vX r, a3] st mem = ev X m_law 538 [a0, a1, vX r, a3] (vX r :: st) mem := ke_xload_n rfl dL_law_537
theorem eL_law_538 : ev X m_law 538 [vR r, a1, a2, a3] st mem = ev X m_law 539 [vR r, a1, a2, a3] (vR r :: st) mem := ke_aload_n rfl dL_law_538
theorem eL_law_538x : ev X m_law 538 [vX r, a1, a2, a3] st mem = ev X m_law 539 [vX r, a1, a2, a3] (vX r :: st) mem := ke_xload_n rfl dL_law_538
theorem eL_law_539 : ev X m_law 539 [a0, a1, a2, vI x] st mem = ev X m_law 540 [a0, a1, a2, vI x] (vI x :: st) mem := ke_iload_n rfl dL_law_539
theorem eL_law_540 : ev X m_law 540 [a0, a1, a2, a3] st mem = ev X m_law 541 [a0, a1, a2, a3] (vI 1 :: st) mem := ke_iconst (by decide) dL_law_540
theorem eL_law_541 : ev X m_law 541 [a0, a1, a2, a3] (vI y :: vI x :: st) mem = ev X m_law 542 [a0, a1, a2, a3] (vI (w32 (x + y)) :: st) mem := ke_iadd dL_law_541
theorem eL_law_542 : ev X m_law 542 [a0, a1, a2, a3] (vI x :: vX 0 :: st) mem = evb X (sget X x) m_law 543 [a0, a1, a2, a3] st mem := ke_saload dL_law_542
theorem eL_law_543 : ev X m_law 543 [vR r, a1, a2, a3] st mem = ev X m_law 544 [vR r, a1, a2, a3] (vR r :: st) mem := ke_aload_n rfl dL_law_543
theorem eL_law_543x : ev X m_law 543 [vX r, a1, a2, a3] st mem = ev X m_law 544 [vX r, a1, a2, a3] (vX r :: st) mem := ke_xload_n rfl dL_law_543
theorem eL_law_544 : ev X m_law 544 [a0, a1, a2, vI x] st mem = ev X m_law 545 [a0, a1, a2, vI x] (vI x :: st) mem := ke_iload_n rfl dL_law_544
theorem eL_law_545 : ev X m_law 545 [a0, a1, a2, a3] st mem = ev X m_law 546 [a0, a1, a2, a3] (vI 2 :: st) mem := ke_iconst (by decide) dL_law_545
theorem eL_law_546 : ev X m_law 546 [a0, a1, a2, a3] (vI y :: vI x :: st) mem = ev X m_law 547 [a0, a1, a2, a3] (vI (w32 (x + y)) :: st) mem := ke_iadd dL_law_546
theorem eL_law_547 : ev X m_law 547 [a0, a1, a2, a3] (vI x :: vX 0 :: st) mem = evb X (sget X x) m_law 548 [a0, a1, a2, a3] st mem := ke_saload dL_law_547
theorem eL_law_548 : ev X m_law 548 [vR r, a1, a2, a3] st mem = ev X m_law 549 [vR r, a1, a2, a3] (vR r :: st) mem := ke_aload_n rfl dL_law_548
theorem eL_law_548x : ev X m_law 548 [vX r, a1, a2, a3] st mem = ev X m_law 549 [vX r, a1, a2, a3] (vX r :: st) mem := ke_xload_n rfl dL_law_548
theorem eL_law_549 : ev X m_law 549 [a0, a1, a2, vI x] st mem = ev X m_law 550 [a0, a1, a2, vI x] (vI x :: st) mem := ke_iload_n rfl dL_law_549
theorem eL_law_550 : ev X m_law 550 [a0, a1, a2, a3] st mem = ev X m_law 551 [a0, a1, a2, a3] (vI 3 :: st) mem := ke_iconst (by decide) dL_law_550
theorem eL_law_551 : ev X m_law 551 [a0, a1, a2, a3] (vI y :: vI x :: st) mem = ev X m_law 552 [a0, a1, a2, a3] (vI (w32 (x + y)) :: st) mem := ke_iadd dL_law_551
theorem eL_law_552 : ev X m_law 552 [a0, a1, a2, a3] (vI x :: vX 0 :: st) mem = evb X (sget X x) m_law 553 [a0, a1, a2, a3] st mem := ke_saload dL_law_552
theorem eL_law_553 : ev X m_law 553 [a0, a1, a2, a3] (vI n2 :: vI n1 :: vI n0 :: vR r :: [s0]) mem = evc X (gR mem r 5 (ev X m_X5_turn 0 [vR r, vI n0, vI n1, vI n2, vS, vS] [] mem)) m_law 556 [a0, a1, a2, a3] [s0] := ke_callV (m' := m_X5_turn) (as := [vI n0, vI n1, vI n2]) (n := 3) (rest := [s0]) dL_law_553 rfl rfl rfl rfl rfl rfl (Nat.le_of_ble_eq_true rfl) (Nat.le_of_ble_eq_true rfl) (Nat.le_of_ble_eq_true rfl) rfl
theorem eL_law_556 : ev X m_law 556 [a0, a1, a2, a3] (vI y :: vI x :: st) mem = if x = y then ev X m_law 1370 [a0, a1, a2, a3] st mem else ev X m_law 559 [a0, a1, a2, a3] st mem := ke_icmp_eq dL_law_556 rfl
theorem eL_law_559 : ev X m_law 559 [a0, a1, a2, a3] st mem = ev X m_law 560 [a0, a1, a2, a3] (vI 0 :: st) mem := ke_iconst (by decide) dL_law_559
theorem eL_law_560a : ev X m_law 560 [a0, a1, a2, a3] [vI 1] mem = some (some (vI 1), mem) := ke_zreturn dL_law_560 rfl rfl
theorem eL_law_560b : ev X m_law 560 [a0, a1, a2, a3] [vI 0] mem = some (some (vI 0), mem) := ke_zreturn dL_law_560 rfl rfl
theorem eL_law_560c {c : Prop} [Decidable c] : ev X m_law 560 [a0, a1, a2, a3] [vI (if c then 1 else 0)] mem = some (some (vI (if c then 1 else 0)), mem) := ke_zreturn dL_law_560 rfl (by split <;> rfl)
theorem eL_law_561 : ev X m_law 561 [a0, vR r, a2, a3] st mem = ev X m_law 562 [a0, vR r, a2, a3] (vR r :: st) mem := ke_aload_n rfl dL_law_561
theorem eL_law_561x : ev X m_law 561 [a0, vX r, a2, a3] st mem = ev X m_law 562 [a0, vX r, a2, a3] (vX r :: st) mem := ke_xload_n rfl dL_law_561
theorem eL_law_562 : ev X m_law 562 [vR r, a1, a2, a3] st mem = ev X m_law 563 [vR r, a1, a2, a3] (vR r :: st) mem := ke_aload_n rfl dL_law_562
theorem eL_law_562x : ev X m_law 562 [vX r, a1, a2, a3] st mem = ev X m_law 563 [vX r, a1, a2, a3] (vX r :: st) mem := ke_xload_n rfl dL_law_562
theorem eL_law_563 : ev X m_law 563 [a0, a1, a2, vI x] st mem = ev X m_law 564 [a0, a1, a2, vI x] (vI x :: st) mem := ke_iload_n rfl dL_law_563
theorem eL_law_564 : ev X m_law 564 [a0, a1, a2, a3] st mem = ev X m_law 565 [a0, a1, a2, a3] (vI 1 :: st) mem := ke_iconst (by decide) dL_law_564
theorem eL_law_565 : ev X m_law 565 [a0, a1, a2, a3] (vI y :: vI x :: st) mem = ev X m_law 566 [a0, a1, a2, a3] (vI (w32 (x + y)) :: st) mem := ke_iadd dL_law_565
theorem eL_law_566 : ev X m_law 566 [a0, a1, a2, a3] (vI x :: vX 0 :: st) mem = evb X (sget X x) m_law 567 [a0, a1, a2, a3] st mem := ke_saload dL_law_566
theorem eL_law_567 : ev X m_law 567 [a0, a1, a2, a3] (vI n0 :: vR r :: []) mem = evc X (gR mem r 4 (ev X m_X4_days 0 [vR r, vI n0] [] mem)) m_law 570 [a0, a1, a2, a3] [] := ke_callV (m' := m_X4_days) (as := [vI n0]) (n := 1) (rest := []) dL_law_567 rfl rfl rfl rfl rfl rfl (Nat.le_of_ble_eq_true rfl) (Nat.le_of_ble_eq_true rfl) (Nat.le_of_ble_eq_true rfl) rfl
theorem eL_law_570 : ev X m_law 570 [a0, a1, vR r, a3] st mem = ev X m_law 571 [a0, a1, vR r, a3] (vR r :: st) mem := ke_aload_n rfl dL_law_570
theorem eL_law_570x : ev X m_law 570 [a0, a1, vX r, a3] st mem = ev X m_law 571 [a0, a1, vX r, a3] (vX r :: st) mem := ke_xload_n rfl dL_law_570
theorem eL_law_571 : ev X m_law 571 [vR r, a1, a2, a3] st mem = ev X m_law 572 [vR r, a1, a2, a3] (vR r :: st) mem := ke_aload_n rfl dL_law_571
theorem eL_law_571x : ev X m_law 571 [vX r, a1, a2, a3] st mem = ev X m_law 572 [vX r, a1, a2, a3] (vX r :: st) mem := ke_xload_n rfl dL_law_571
theorem eL_law_572 : ev X m_law 572 [a0, a1, a2, vI x] st mem = ev X m_law 573 [a0, a1, a2, vI x] (vI x :: st) mem := ke_iload_n rfl dL_law_572
theorem eL_law_573 : ev X m_law 573 [a0, a1, a2, a3] st mem = ev X m_law 574 [a0, a1, a2, a3] (vI 1 :: st) mem := ke_iconst (by decide) dL_law_573
theorem eL_law_574 : ev X m_law 574 [a0, a1, a2, a3] (vI y :: vI x :: st) mem = ev X m_law 575 [a0, a1, a2, a3] (vI (w32 (x + y)) :: st) mem := ke_iadd dL_law_574
theorem eL_law_575 : ev X m_law 575 [a0, a1, a2, a3] (vI x :: vX 0 :: st) mem = evb X (sget X x) m_law 576 [a0, a1, a2, a3] st mem := ke_saload dL_law_575
theorem eL_law_576 : ev X m_law 576 [a0, a1, a2, a3] (vI n0 :: vR r :: [s0]) mem = evc X (gR mem r 5 (ev X m_X5_days 0 [vR r, vI n0, vS] [] mem)) m_law 579 [a0, a1, a2, a3] [s0] := ke_callV (m' := m_X5_days) (as := [vI n0]) (n := 1) (rest := [s0]) dL_law_576 rfl rfl rfl rfl rfl rfl (Nat.le_of_ble_eq_true rfl) (Nat.le_of_ble_eq_true rfl) (Nat.le_of_ble_eq_true rfl) rfl
theorem eL_law_579 : ev X m_law 579 [a0, a1, a2, a3] (vI y :: vI x :: st) mem = if x = y then ev X m_law 1370 [a0, a1, a2, a3] st mem else ev X m_law 582 [a0, a1, a2, a3] st mem := ke_icmp_eq dL_law_579 rfl
theorem eL_law_582 : ev X m_law 582 [a0, a1, a2, a3] st mem = ev X m_law 583 [a0, a1, a2, a3] (vI 0 :: st) mem := ke_iconst (by decide) dL_law_582
theorem eL_law_583a : ev X m_law 583 [a0, a1, a2, a3] [vI 1] mem = some (some (vI 1), mem) := ke_zreturn dL_law_583 rfl rfl
theorem eL_law_583b : ev X m_law 583 [a0, a1, a2, a3] [vI 0] mem = some (some (vI 0), mem) := ke_zreturn dL_law_583 rfl rfl
theorem eL_law_583c {c : Prop} [Decidable c] : ev X m_law 583 [a0, a1, a2, a3] [vI (if c then 1 else 0)] mem = some (some (vI (if c then 1 else 0)), mem) := ke_zreturn dL_law_583 rfl (by split <;> rfl)
theorem eL_law_584 : ev X m_law 584 [a0, vR r, a2, a3] st mem = ev X m_law 585 [a0, vR r, a2, a3] (vR r :: st) mem := ke_aload_n rfl dL_law_584
theorem eL_law_584x : ev X m_law 584 [a0, vX r, a2, a3] st mem = ev X m_law 585 [a0, vX r, a2, a3] (vX r :: st) mem := ke_xload_n rfl dL_law_584
theorem eL_law_585 : ev X m_law 585 [vR r, a1, a2, a3] st mem = ev X m_law 586 [vR r, a1, a2, a3] (vR r :: st) mem := ke_aload_n rfl dL_law_585
theorem eL_law_585x : ev X m_law 585 [vX r, a1, a2, a3] st mem = ev X m_law 586 [vX r, a1, a2, a3] (vX r :: st) mem := ke_xload_n rfl dL_law_585
theorem eL_law_586 : ev X m_law 586 [a0, a1, a2, vI x] st mem = ev X m_law 587 [a0, a1, a2, vI x] (vI x :: st) mem := ke_iload_n rfl dL_law_586
theorem eL_law_587 : ev X m_law 587 [a0, a1, a2, a3] st mem = ev X m_law 588 [a0, a1, a2, a3] (vI 1 :: st) mem := ke_iconst (by decide) dL_law_587
theorem eL_law_588 : ev X m_law 588 [a0, a1, a2, a3] (vI y :: vI x :: st) mem = ev X m_law 589 [a0, a1, a2, a3] (vI (w32 (x + y)) :: st) mem := ke_iadd dL_law_588
theorem eL_law_589 : ev X m_law 589 [a0, a1, a2, a3] (vI x :: vX 0 :: st) mem = evb X (sget X x) m_law 590 [a0, a1, a2, a3] st mem := ke_saload dL_law_589
theorem eL_law_590 : ev X m_law 590 [vR r, a1, a2, a3] st mem = ev X m_law 591 [vR r, a1, a2, a3] (vR r :: st) mem := ke_aload_n rfl dL_law_590
theorem eL_law_590x : ev X m_law 590 [vX r, a1, a2, a3] st mem = ev X m_law 591 [vX r, a1, a2, a3] (vX r :: st) mem := ke_xload_n rfl dL_law_590
theorem eL_law_591 : ev X m_law 591 [a0, a1, a2, vI x] st mem = ev X m_law 592 [a0, a1, a2, vI x] (vI x :: st) mem := ke_iload_n rfl dL_law_591
theorem eL_law_592 : ev X m_law 592 [a0, a1, a2, a3] st mem = ev X m_law 593 [a0, a1, a2, a3] (vI 2 :: st) mem := ke_iconst (by decide) dL_law_592
theorem eL_law_593 : ev X m_law 593 [a0, a1, a2, a3] (vI y :: vI x :: st) mem = ev X m_law 594 [a0, a1, a2, a3] (vI (w32 (x + y)) :: st) mem := ke_iadd dL_law_593
theorem eL_law_594 : ev X m_law 594 [a0, a1, a2, a3] (vI x :: vX 0 :: st) mem = evb X (sget X x) m_law 595 [a0, a1, a2, a3] st mem := ke_saload dL_law_594
theorem eL_law_595 : ev X m_law 595 [vR r, a1, a2, a3] st mem = ev X m_law 596 [vR r, a1, a2, a3] (vR r :: st) mem := ke_aload_n rfl dL_law_595
theorem eL_law_595x : ev X m_law 595 [vX r, a1, a2, a3] st mem = ev X m_law 596 [vX r, a1, a2, a3] (vX r :: st) mem := ke_xload_n rfl dL_law_595
theorem eL_law_596 : ev X m_law 596 [a0, a1, a2, vI x] st mem = ev X m_law 597 [a0, a1, a2, vI x] (vI x :: st) mem := ke_iload_n rfl dL_law_596
theorem eL_law_597 : ev X m_law 597 [a0, a1, a2, a3] st mem = ev X m_law 598 [a0, a1, a2, a3] (vI 3 :: st) mem := ke_iconst (by decide) dL_law_597
theorem eL_law_598 : ev X m_law 598 [a0, a1, a2, a3] (vI y :: vI x :: st) mem = ev X m_law 599 [a0, a1, a2, a3] (vI (w32 (x + y)) :: st) mem := ke_iadd dL_law_598
theorem eL_law_599 : ev X m_law 599 [a0, a1, a2, a3] (vI x :: vX 0 :: st) mem = evb X (sget X x) m_law 600 [a0, a1, a2, a3] st mem := ke_saload dL_law_599
theorem eL_law_600 : ev X m_law 600 [a0, a1, a2, a3] (vI n2 :: vI n1 :: vI n0 :: vR r :: []) mem = evc X (gR mem r 4 (ev X m_X4_parcelThen 0 [vR r, vI n0, vI n1, vI n2, vS] [] mem)) m_law 603 [a0, a1, a2, a3] [] := ke_callV (m' := m_X4_parcelThen) (as := [vI n0, vI n1, vI n2]) (n := 3) (rest := []) dL_law_600 rfl rfl rfl rfl rfl rfl (Nat.le_of_ble_eq_true rfl) (Nat.le_of_ble_eq_true rfl) (Nat.le_of_ble_eq_true rfl) rfl
theorem eL_law_603 : ev X m_law 603 [a0, a1, vR r, a3] st mem = ev X m_law 604 [a0, a1, vR r, a3] (vR r :: st) mem := ke_aload_n rfl dL_law_603
theorem eL_law_603x : ev X m_law 603 [a0, a1, vX r, a3] st mem = ev X m_law 604 [a0, a1, vX r, a3] (vX r :: st) mem := ke_xload_n rfl dL_law_603
theorem eL_law_604 : ev X m_law 604 [vR r, a1, a2, a3] st mem = ev X m_law 605 [vR r, a1, a2, a3] (vR r :: st) mem := ke_aload_n rfl dL_law_604
theorem eL_law_604x : ev X m_law 604 [vX r, a1, a2, a3] st mem = ev X m_law 605 [vX r, a1, a2, a3] (vX r :: st) mem := ke_xload_n rfl dL_law_604
theorem eL_law_605 : ev X m_law 605 [a0, a1, a2, vI x] st mem = ev X m_law 606 [a0, a1, a2, vI x] (vI x :: st) mem := ke_iload_n rfl dL_law_605
theorem eL_law_606 : ev X m_law 606 [a0, a1, a2, a3] st mem = ev X m_law 607 [a0, a1, a2, a3] (vI 1 :: st) mem := ke_iconst (by decide) dL_law_606
theorem eL_law_607 : ev X m_law 607 [a0, a1, a2, a3] (vI y :: vI x :: st) mem = ev X m_law 608 [a0, a1, a2, a3] (vI (w32 (x + y)) :: st) mem := ke_iadd dL_law_607
theorem eL_law_608 : ev X m_law 608 [a0, a1, a2, a3] (vI x :: vX 0 :: st) mem = evb X (sget X x) m_law 609 [a0, a1, a2, a3] st mem := ke_saload dL_law_608
theorem eL_law_609 : ev X m_law 609 [vR r, a1, a2, a3] st mem = ev X m_law 610 [vR r, a1, a2, a3] (vR r :: st) mem := ke_aload_n rfl dL_law_609
theorem eL_law_609x : ev X m_law 609 [vX r, a1, a2, a3] st mem = ev X m_law 610 [vX r, a1, a2, a3] (vX r :: st) mem := ke_xload_n rfl dL_law_609
theorem eL_law_610 : ev X m_law 610 [a0, a1, a2, vI x] st mem = ev X m_law 611 [a0, a1, a2, vI x] (vI x :: st) mem := ke_iload_n rfl dL_law_610
theorem eL_law_611 : ev X m_law 611 [a0, a1, a2, a3] st mem = ev X m_law 612 [a0, a1, a2, a3] (vI 2 :: st) mem := ke_iconst (by decide) dL_law_611
theorem eL_law_612 : ev X m_law 612 [a0, a1, a2, a3] (vI y :: vI x :: st) mem = ev X m_law 613 [a0, a1, a2, a3] (vI (w32 (x + y)) :: st) mem := ke_iadd dL_law_612
theorem eL_law_613 : ev X m_law 613 [a0, a1, a2, a3] (vI x :: vX 0 :: st) mem = evb X (sget X x) m_law 614 [a0, a1, a2, a3] st mem := ke_saload dL_law_613
theorem eL_law_614 : ev X m_law 614 [vR r, a1, a2, a3] st mem = ev X m_law 615 [vR r, a1, a2, a3] (vR r :: st) mem := ke_aload_n rfl dL_law_614
theorem eL_law_614x : ev X m_law 614 [vX r, a1, a2, a3] st mem = ev X m_law 615 [vX r, a1, a2, a3] (vX r :: st) mem := ke_xload_n rfl dL_law_614
theorem eL_law_615 : ev X m_law 615 [a0, a1, a2, vI x] st mem = ev X m_law 616 [a0, a1, a2, vI x] (vI x :: st) mem := ke_iload_n rfl dL_law_615
theorem eL_law_616 : ev X m_law 616 [a0, a1, a2, a3] st mem = ev X m_law 617 [a0, a1, a2, a3] (vI 3 :: st) mem := ke_iconst (by decide) dL_law_616
theorem eL_law_617 : ev X m_law 617 [a0, a1, a2, a3] (vI y :: vI x :: st) mem = ev X m_law 618 [a0, a1, a2, a3] (vI (w32 (x + y)) :: st) mem := ke_iadd dL_law_617
theorem eL_law_618 : ev X m_law 618 [a0, a1, a2, a3] (vI x :: vX 0 :: st) mem = evb X (sget X x) m_law 619 [a0, a1, a2, a3] st mem := ke_saload dL_law_618
theorem eL_law_619 : ev X m_law 619 [a0, a1, a2, a3] (vI n2 :: vI n1 :: vI n0 :: vR r :: [s0]) mem = evc X (gR mem r 5 (ev X m_X5_parcelThen 0 [vR r, vI n0, vI n1, vI n2, vS, vS] [] mem)) m_law 622 [a0, a1, a2, a3] [s0] := ke_callV (m' := m_X5_parcelThen) (as := [vI n0, vI n1, vI n2]) (n := 3) (rest := [s0]) dL_law_619 rfl rfl rfl rfl rfl rfl (Nat.le_of_ble_eq_true rfl) (Nat.le_of_ble_eq_true rfl) (Nat.le_of_ble_eq_true rfl) rfl
theorem eL_law_622 : ev X m_law 622 [a0, a1, a2, a3] (vI y :: vI x :: st) mem = if x = y then ev X m_law 1370 [a0, a1, a2, a3] st mem else ev X m_law 625 [a0, a1, a2, a3] st mem := ke_icmp_eq dL_law_622 rfl
theorem eL_law_625 : ev X m_law 625 [a0, a1, a2, a3] st mem = ev X m_law 626 [a0, a1, a2, a3] (vI 0 :: st) mem := ke_iconst (by decide) dL_law_625
theorem eL_law_626a : ev X m_law 626 [a0, a1, a2, a3] [vI 1] mem = some (some (vI 1), mem) := ke_zreturn dL_law_626 rfl rfl
theorem eL_law_626b : ev X m_law 626 [a0, a1, a2, a3] [vI 0] mem = some (some (vI 0), mem) := ke_zreturn dL_law_626 rfl rfl
theorem eL_law_626c {c : Prop} [Decidable c] : ev X m_law 626 [a0, a1, a2, a3] [vI (if c then 1 else 0)] mem = some (some (vI (if c then 1 else 0)), mem) := ke_zreturn dL_law_626 rfl (by split <;> rfl)
theorem eL_law_627 : ev X m_law 627 [a0, vR r, a2, a3] st mem = ev X m_law 628 [a0, vR r, a2, a3] (vR r :: st) mem := ke_aload_n rfl dL_law_627
theorem eL_law_627x : ev X m_law 627 [a0, vX r, a2, a3] st mem = ev X m_law 628 [a0, vX r, a2, a3] (vX r :: st) mem := ke_xload_n rfl dL_law_627
theorem eL_law_628 : ev X m_law 628 [vR r, a1, a2, a3] st mem = ev X m_law 629 [vR r, a1, a2, a3] (vR r :: st) mem := ke_aload_n rfl dL_law_628
theorem eL_law_628x : ev X m_law 628 [vX r, a1, a2, a3] st mem = ev X m_law 629 [vX r, a1, a2, a3] (vX r :: st) mem := ke_xload_n rfl dL_law_628
theorem eL_law_629 : ev X m_law 629 [a0, a1, a2, vI x] st mem = ev X m_law 630 [a0, a1, a2, vI x] (vI x :: st) mem := ke_iload_n rfl dL_law_629
theorem eL_law_630 : ev X m_law 630 [a0, a1, a2, a3] st mem = ev X m_law 631 [a0, a1, a2, a3] (vI 1 :: st) mem := ke_iconst (by decide) dL_law_630
theorem eL_law_631 : ev X m_law 631 [a0, a1, a2, a3] (vI y :: vI x :: st) mem = ev X m_law 632 [a0, a1, a2, a3] (vI (w32 (x + y)) :: st) mem := ke_iadd dL_law_631
theorem eL_law_632 : ev X m_law 632 [a0, a1, a2, a3] (vI x :: vX 0 :: st) mem = evb X (sget X x) m_law 633 [a0, a1, a2, a3] st mem := ke_saload dL_law_632
theorem eL_law_633 : ev X m_law 633 [vR r, a1, a2, a3] st mem = ev X m_law 634 [vR r, a1, a2, a3] (vR r :: st) mem := ke_aload_n rfl dL_law_633
theorem eL_law_633x : ev X m_law 633 [vX r, a1, a2, a3] st mem = ev X m_law 634 [vX r, a1, a2, a3] (vX r :: st) mem := ke_xload_n rfl dL_law_633
theorem eL_law_634 : ev X m_law 634 [a0, a1, a2, vI x] st mem = ev X m_law 635 [a0, a1, a2, vI x] (vI x :: st) mem := ke_iload_n rfl dL_law_634
theorem eL_law_635 : ev X m_law 635 [a0, a1, a2, a3] st mem = ev X m_law 636 [a0, a1, a2, a3] (vI 2 :: st) mem := ke_iconst (by decide) dL_law_635
theorem eL_law_636 : ev X m_law 636 [a0, a1, a2, a3] (vI y :: vI x :: st) mem = ev X m_law 637 [a0, a1, a2, a3] (vI (w32 (x + y)) :: st) mem := ke_iadd dL_law_636
theorem eL_law_637 : ev X m_law 637 [a0, a1, a2, a3] (vI x :: vX 0 :: st) mem = evb X (sget X x) m_law 638 [a0, a1, a2, a3] st mem := ke_saload dL_law_637
theorem eL_law_638 : ev X m_law 638 [vR r, a1, a2, a3] st mem = ev X m_law 639 [vR r, a1, a2, a3] (vR r :: st) mem := ke_aload_n rfl dL_law_638
theorem eL_law_638x : ev X m_law 638 [vX r, a1, a2, a3] st mem = ev X m_law 639 [vX r, a1, a2, a3] (vX r :: st) mem := ke_xload_n rfl dL_law_638
theorem eL_law_639 : ev X m_law 639 [a0, a1, a2, vI x] st mem = ev X m_law 640 [a0, a1, a2, vI x] (vI x :: st) mem := ke_iload_n rfl dL_law_639
theorem eL_law_640 : ev X m_law 640 [a0, a1, a2, a3] st mem = ev X m_law 641 [a0, a1, a2, a3] (vI 3 :: st) mem := ke_iconst (by decide) dL_law_640
theorem eL_law_641 : ev X m_law 641 [a0, a1, a2, a3] (vI y :: vI x :: st) mem = ev X m_law 642 [a0, a1, a2, a3] (vI (w32 (x + y)) :: st) mem := ke_iadd dL_law_641
theorem eL_law_642 : ev X m_law 642 [a0, a1, a2, a3] (vI x :: vX 0 :: st) mem = evb X (sget X x) m_law 643 [a0, a1, a2, a3] st mem := ke_saload dL_law_642
theorem eL_law_643 : ev X m_law 643 [a0, a1, a2, a3] (vI n2 :: vI n1 :: vI n0 :: vR r :: []) mem = evc X (gR mem r 4 (ev X m_X4_hateThen 0 [vR r, vI n0, vI n1, vI n2] [] mem)) m_law 646 [a0, a1, a2, a3] [] := ke_callV (m' := m_X4_hateThen) (as := [vI n0, vI n1, vI n2]) (n := 3) (rest := []) dL_law_643 rfl rfl rfl rfl rfl rfl (Nat.le_of_ble_eq_true rfl) (Nat.le_of_ble_eq_true rfl) (Nat.le_of_ble_eq_true rfl) rfl
theorem eL_law_646 : ev X m_law 646 [a0, a1, vR r, a3] st mem = ev X m_law 647 [a0, a1, vR r, a3] (vR r :: st) mem := ke_aload_n rfl dL_law_646
theorem eL_law_646x : ev X m_law 646 [a0, a1, vX r, a3] st mem = ev X m_law 647 [a0, a1, vX r, a3] (vX r :: st) mem := ke_xload_n rfl dL_law_646
theorem eL_law_647 : ev X m_law 647 [vR r, a1, a2, a3] st mem = ev X m_law 648 [vR r, a1, a2, a3] (vR r :: st) mem := ke_aload_n rfl dL_law_647
theorem eL_law_647x : ev X m_law 647 [vX r, a1, a2, a3] st mem = ev X m_law 648 [vX r, a1, a2, a3] (vX r :: st) mem := ke_xload_n rfl dL_law_647
theorem eL_law_648 : ev X m_law 648 [a0, a1, a2, vI x] st mem = ev X m_law 649 [a0, a1, a2, vI x] (vI x :: st) mem := ke_iload_n rfl dL_law_648
theorem eL_law_649 : ev X m_law 649 [a0, a1, a2, a3] st mem = ev X m_law 650 [a0, a1, a2, a3] (vI 1 :: st) mem := ke_iconst (by decide) dL_law_649
theorem eL_law_650 : ev X m_law 650 [a0, a1, a2, a3] (vI y :: vI x :: st) mem = ev X m_law 651 [a0, a1, a2, a3] (vI (w32 (x + y)) :: st) mem := ke_iadd dL_law_650
theorem eL_law_651 : ev X m_law 651 [a0, a1, a2, a3] (vI x :: vX 0 :: st) mem = evb X (sget X x) m_law 652 [a0, a1, a2, a3] st mem := ke_saload dL_law_651
theorem eL_law_652 : ev X m_law 652 [vR r, a1, a2, a3] st mem = ev X m_law 653 [vR r, a1, a2, a3] (vR r :: st) mem := ke_aload_n rfl dL_law_652
theorem eL_law_652x : ev X m_law 652 [vX r, a1, a2, a3] st mem = ev X m_law 653 [vX r, a1, a2, a3] (vX r :: st) mem := ke_xload_n rfl dL_law_652
theorem eL_law_653 : ev X m_law 653 [a0, a1, a2, vI x] st mem = ev X m_law 654 [a0, a1, a2, vI x] (vI x :: st) mem := ke_iload_n rfl dL_law_653
theorem eL_law_654 : ev X m_law 654 [a0, a1, a2, a3] st mem = ev X m_law 655 [a0, a1, a2, a3] (vI 2 :: st) mem := ke_iconst (by decide) dL_law_654
theorem eL_law_655 : ev X m_law 655 [a0, a1, a2, a3] (vI y :: vI x :: st) mem = ev X m_law 656 [a0, a1, a2, a3] (vI (w32 (x + y)) :: st) mem := ke_iadd dL_law_655
theorem eL_law_656 : ev X m_law 656 [a0, a1, a2, a3] (vI x :: vX 0 :: st) mem = evb X (sget X x) m_law 657 [a0, a1, a2, a3] st mem := ke_saload dL_law_656
theorem eL_law_657 : ev X m_law 657 [vR r, a1, a2, a3] st mem = ev X m_law 658 [vR r, a1, a2, a3] (vR r :: st) mem := ke_aload_n rfl dL_law_657
theorem eL_law_657x : ev X m_law 657 [vX r, a1, a2, a3] st mem = ev X m_law 658 [vX r, a1, a2, a3] (vX r :: st) mem := ke_xload_n rfl dL_law_657
theorem eL_law_658 : ev X m_law 658 [a0, a1, a2, vI x] st mem = ev X m_law 659 [a0, a1, a2, vI x] (vI x :: st) mem := ke_iload_n rfl dL_law_658
theorem eL_law_659 : ev X m_law 659 [a0, a1, a2, a3] st mem = ev X m_law 660 [a0, a1, a2, a3] (vI 3 :: st) mem := ke_iconst (by decide) dL_law_659
theorem eL_law_660 : ev X m_law 660 [a0, a1, a2, a3] (vI y :: vI x :: st) mem = ev X m_law 661 [a0, a1, a2, a3] (vI (w32 (x + y)) :: st) mem := ke_iadd dL_law_660
theorem eL_law_661 : ev X m_law 661 [a0, a1, a2, a3] (vI x :: vX 0 :: st) mem = evb X (sget X x) m_law 662 [a0, a1, a2, a3] st mem := ke_saload dL_law_661
theorem eL_law_662 : ev X m_law 662 [a0, a1, a2, a3] (vI n2 :: vI n1 :: vI n0 :: vR r :: [s0]) mem = evc X (gR mem r 5 (ev X m_X5_hateThen 0 [vR r, vI n0, vI n1, vI n2, vS, vS] [] mem)) m_law 665 [a0, a1, a2, a3] [s0] := ke_callV (m' := m_X5_hateThen) (as := [vI n0, vI n1, vI n2]) (n := 3) (rest := [s0]) dL_law_662 rfl rfl rfl rfl rfl rfl (Nat.le_of_ble_eq_true rfl) (Nat.le_of_ble_eq_true rfl) (Nat.le_of_ble_eq_true rfl) rfl
theorem eL_law_665 : ev X m_law 665 [a0, a1, a2, a3] (vI y :: vI x :: st) mem = if x = y then ev X m_law 1370 [a0, a1, a2, a3] st mem else ev X m_law 668 [a0, a1, a2, a3] st mem := ke_icmp_eq dL_law_665 rfl
theorem eL_law_668 : ev X m_law 668 [a0, a1, a2, a3] st mem = ev X m_law 669 [a0, a1, a2, a3] (vI 0 :: st) mem := ke_iconst (by decide) dL_law_668
theorem eL_law_669a : ev X m_law 669 [a0, a1, a2, a3] [vI 1] mem = some (some (vI 1), mem) := ke_zreturn dL_law_669 rfl rfl
theorem eL_law_669b : ev X m_law 669 [a0, a1, a2, a3] [vI 0] mem = some (some (vI 0), mem) := ke_zreturn dL_law_669 rfl rfl
theorem eL_law_669c {c : Prop} [Decidable c] : ev X m_law 669 [a0, a1, a2, a3] [vI (if c then 1 else 0)] mem = some (some (vI (if c then 1 else 0)), mem) := ke_zreturn dL_law_669 rfl (by split <;> rfl)
theorem eL_law_670 : ev X m_law 670 [a0, vR r, a2, a3] st mem = ev X m_law 671 [a0, vR r, a2, a3] (vR r :: st) mem := ke_aload_n rfl dL_law_670
theorem eL_law_670x : ev X m_law 670 [a0, vX r, a2, a3] st mem = ev X m_law 671 [a0, vX r, a2, a3] (vX r :: st) mem := ke_xload_n rfl dL_law_670
theorem eL_law_671 : ev X m_law 671 [vR r, a1, a2, a3] st mem = ev X m_law 672 [vR r, a1, a2, a3] (vR r :: st) mem := ke_aload_n rfl dL_law_671
theorem eL_law_671x : ev X m_law 671 [vX r, a1, a2, a3] st mem = ev X m_law 672 [vX r, a1, a2, a3] (vX r :: st) mem := ke_xload_n rfl dL_law_671
theorem eL_law_672 : ev X m_law 672 [a0, a1, a2, vI x] st mem = ev X m_law 673 [a0, a1, a2, vI x] (vI x :: st) mem := ke_iload_n rfl dL_law_672
theorem eL_law_673 : ev X m_law 673 [a0, a1, a2, a3] st mem = ev X m_law 674 [a0, a1, a2, a3] (vI 1 :: st) mem := ke_iconst (by decide) dL_law_673
theorem eL_law_674 : ev X m_law 674 [a0, a1, a2, a3] (vI y :: vI x :: st) mem = ev X m_law 675 [a0, a1, a2, a3] (vI (w32 (x + y)) :: st) mem := ke_iadd dL_law_674
theorem eL_law_675 : ev X m_law 675 [a0, a1, a2, a3] (vI x :: vX 0 :: st) mem = evb X (sget X x) m_law 676 [a0, a1, a2, a3] st mem := ke_saload dL_law_675
theorem eL_law_676 : ev X m_law 676 [vR r, a1, a2, a3] st mem = ev X m_law 677 [vR r, a1, a2, a3] (vR r :: st) mem := ke_aload_n rfl dL_law_676
theorem eL_law_676x : ev X m_law 676 [vX r, a1, a2, a3] st mem = ev X m_law 677 [vX r, a1, a2, a3] (vX r :: st) mem := ke_xload_n rfl dL_law_676
theorem eL_law_677 : ev X m_law 677 [a0, a1, a2, vI x] st mem = ev X m_law 678 [a0, a1, a2, vI x] (vI x :: st) mem := ke_iload_n rfl dL_law_677
theorem eL_law_678 : ev X m_law 678 [a0, a1, a2, a3] st mem = ev X m_law 679 [a0, a1, a2, a3] (vI 2 :: st) mem := ke_iconst (by decide) dL_law_678
theorem eL_law_679 : ev X m_law 679 [a0, a1, a2, a3] (vI y :: vI x :: st) mem = ev X m_law 680 [a0, a1, a2, a3] (vI (w32 (x + y)) :: st) mem := ke_iadd dL_law_679
theorem eL_law_680 : ev X m_law 680 [a0, a1, a2, a3] (vI x :: vX 0 :: st) mem = evb X (sget X x) m_law 681 [a0, a1, a2, a3] st mem := ke_saload dL_law_680
theorem eL_law_681 : ev X m_law 681 [a0, a1, a2, a3] (vI n1 :: vI n0 :: vR r :: []) mem = evc X (gR mem r 4 (ev X m_X4_gotThen 0 [vR r, vI n0, vI n1, vS] [] mem)) m_law 684 [a0, a1, a2, a3] [] := ke_callV (m' := m_X4_gotThen) (as := [vI n0, vI n1]) (n := 2) (rest := []) dL_law_681 rfl rfl rfl rfl rfl rfl (Nat.le_of_ble_eq_true rfl) (Nat.le_of_ble_eq_true rfl) (Nat.le_of_ble_eq_true rfl) rfl
theorem eL_law_684 : ev X m_law 684 [a0, a1, vR r, a3] st mem = ev X m_law 685 [a0, a1, vR r, a3] (vR r :: st) mem := ke_aload_n rfl dL_law_684
theorem eL_law_684x : ev X m_law 684 [a0, a1, vX r, a3] st mem = ev X m_law 685 [a0, a1, vX r, a3] (vX r :: st) mem := ke_xload_n rfl dL_law_684
theorem eL_law_685 : ev X m_law 685 [vR r, a1, a2, a3] st mem = ev X m_law 686 [vR r, a1, a2, a3] (vR r :: st) mem := ke_aload_n rfl dL_law_685
theorem eL_law_685x : ev X m_law 685 [vX r, a1, a2, a3] st mem = ev X m_law 686 [vX r, a1, a2, a3] (vX r :: st) mem := ke_xload_n rfl dL_law_685
theorem eL_law_686 : ev X m_law 686 [a0, a1, a2, vI x] st mem = ev X m_law 687 [a0, a1, a2, vI x] (vI x :: st) mem := ke_iload_n rfl dL_law_686
theorem eL_law_687 : ev X m_law 687 [a0, a1, a2, a3] st mem = ev X m_law 688 [a0, a1, a2, a3] (vI 1 :: st) mem := ke_iconst (by decide) dL_law_687
theorem eL_law_688 : ev X m_law 688 [a0, a1, a2, a3] (vI y :: vI x :: st) mem = ev X m_law 689 [a0, a1, a2, a3] (vI (w32 (x + y)) :: st) mem := ke_iadd dL_law_688
theorem eL_law_689 : ev X m_law 689 [a0, a1, a2, a3] (vI x :: vX 0 :: st) mem = evb X (sget X x) m_law 690 [a0, a1, a2, a3] st mem := ke_saload dL_law_689
theorem eL_law_690 : ev X m_law 690 [vR r, a1, a2, a3] st mem = ev X m_law 691 [vR r, a1, a2, a3] (vR r :: st) mem := ke_aload_n rfl dL_law_690
theorem eL_law_690x : ev X m_law 690 [vX r, a1, a2, a3] st mem = ev X m_law 691 [vX r, a1, a2, a3] (vX r :: st) mem := ke_xload_n rfl dL_law_690
theorem eL_law_691 : ev X m_law 691 [a0, a1, a2, vI x] st mem = ev X m_law 692 [a0, a1, a2, vI x] (vI x :: st) mem := ke_iload_n rfl dL_law_691
theorem eL_law_692 : ev X m_law 692 [a0, a1, a2, a3] st mem = ev X m_law 693 [a0, a1, a2, a3] (vI 2 :: st) mem := ke_iconst (by decide) dL_law_692
theorem eL_law_693 : ev X m_law 693 [a0, a1, a2, a3] (vI y :: vI x :: st) mem = ev X m_law 694 [a0, a1, a2, a3] (vI (w32 (x + y)) :: st) mem := ke_iadd dL_law_693
theorem eL_law_694 : ev X m_law 694 [a0, a1, a2, a3] (vI x :: vX 0 :: st) mem = evb X (sget X x) m_law 695 [a0, a1, a2, a3] st mem := ke_saload dL_law_694
theorem eL_law_695 : ev X m_law 695 [a0, a1, a2, a3] (vI n1 :: vI n0 :: vR r :: [s0]) mem = evc X (gR mem r 5 (ev X m_X5_gotThen 0 [vR r, vI n0, vI n1, vS, vS] [] mem)) m_law 698 [a0, a1, a2, a3] [s0] := ke_callV (m' := m_X5_gotThen) (as := [vI n0, vI n1]) (n := 2) (rest := [s0]) dL_law_695 rfl rfl rfl rfl rfl rfl (Nat.le_of_ble_eq_true rfl) (Nat.le_of_ble_eq_true rfl) (Nat.le_of_ble_eq_true rfl) rfl
theorem eL_law_698 : ev X m_law 698 [a0, a1, a2, a3] (vI y :: vI x :: st) mem = if x = y then ev X m_law 1370 [a0, a1, a2, a3] st mem else ev X m_law 701 [a0, a1, a2, a3] st mem := ke_icmp_eq dL_law_698 rfl
theorem eL_law_701 : ev X m_law 701 [a0, a1, a2, a3] st mem = ev X m_law 702 [a0, a1, a2, a3] (vI 0 :: st) mem := ke_iconst (by decide) dL_law_701
theorem eL_law_702a : ev X m_law 702 [a0, a1, a2, a3] [vI 1] mem = some (some (vI 1), mem) := ke_zreturn dL_law_702 rfl rfl
theorem eL_law_702b : ev X m_law 702 [a0, a1, a2, a3] [vI 0] mem = some (some (vI 0), mem) := ke_zreturn dL_law_702 rfl rfl
theorem eL_law_702c {c : Prop} [Decidable c] : ev X m_law 702 [a0, a1, a2, a3] [vI (if c then 1 else 0)] mem = some (some (vI (if c then 1 else 0)), mem) := ke_zreturn dL_law_702 rfl (by split <;> rfl)
theorem eL_law_703 : ev X m_law 703 [a0, vR r, a2, a3] st mem = ev X m_law 704 [a0, vR r, a2, a3] (vR r :: st) mem := ke_aload_n rfl dL_law_703
theorem eL_law_703x : ev X m_law 703 [a0, vX r, a2, a3] st mem = ev X m_law 704 [a0, vX r, a2, a3] (vX r :: st) mem := ke_xload_n rfl dL_law_703
theorem eL_law_704 : ev X m_law 704 [vR r, a1, a2, a3] st mem = ev X m_law 705 [vR r, a1, a2, a3] (vR r :: st) mem := ke_aload_n rfl dL_law_704
theorem eL_law_704x : ev X m_law 704 [vX r, a1, a2, a3] st mem = ev X m_law 705 [vX r, a1, a2, a3] (vX r :: st) mem := ke_xload_n rfl dL_law_704
theorem eL_law_705 : ev X m_law 705 [a0, a1, a2, vI x] st mem = ev X m_law 706 [a0, a1, a2, vI x] (vI x :: st) mem := ke_iload_n rfl dL_law_705
theorem eL_law_706 : ev X m_law 706 [a0, a1, a2, a3] st mem = ev X m_law 707 [a0, a1, a2, a3] (vI 1 :: st) mem := ke_iconst (by decide) dL_law_706
theorem eL_law_707 : ev X m_law 707 [a0, a1, a2, a3] (vI y :: vI x :: st) mem = ev X m_law 708 [a0, a1, a2, a3] (vI (w32 (x + y)) :: st) mem := ke_iadd dL_law_707
theorem eL_law_708 : ev X m_law 708 [a0, a1, a2, a3] (vI x :: vX 0 :: st) mem = evb X (sget X x) m_law 709 [a0, a1, a2, a3] st mem := ke_saload dL_law_708
theorem eL_law_709 : ev X m_law 709 [a0, a1, a2, a3] (vI n0 :: vR r :: []) mem = evc X (gR mem r 4 (ev X m_X4_when 0 [vR r, vI n0] [] mem)) m_law 712 [a0, a1, a2, a3] [] := ke_callV (m' := m_X4_when) (as := [vI n0]) (n := 1) (rest := []) dL_law_709 rfl rfl rfl rfl rfl rfl (Nat.le_of_ble_eq_true rfl) (Nat.le_of_ble_eq_true rfl) (Nat.le_of_ble_eq_true rfl) rfl
theorem eL_law_712 : ev X m_law 712 [a0, a1, vR r, a3] st mem = ev X m_law 713 [a0, a1, vR r, a3] (vR r :: st) mem := ke_aload_n rfl dL_law_712
theorem eL_law_712x : ev X m_law 712 [a0, a1, vX r, a3] st mem = ev X m_law 713 [a0, a1, vX r, a3] (vX r :: st) mem := ke_xload_n rfl dL_law_712
theorem eL_law_713 : ev X m_law 713 [vR r, a1, a2, a3] st mem = ev X m_law 714 [vR r, a1, a2, a3] (vR r :: st) mem := ke_aload_n rfl dL_law_713
theorem eL_law_713x : ev X m_law 713 [vX r, a1, a2, a3] st mem = ev X m_law 714 [vX r, a1, a2, a3] (vX r :: st) mem := ke_xload_n rfl dL_law_713
theorem eL_law_714 : ev X m_law 714 [a0, a1, a2, vI x] st mem = ev X m_law 715 [a0, a1, a2, vI x] (vI x :: st) mem := ke_iload_n rfl dL_law_714
theorem eL_law_715 : ev X m_law 715 [a0, a1, a2, a3] st mem = ev X m_law 716 [a0, a1, a2, a3] (vI 1 :: st) mem := ke_iconst (by decide) dL_law_715
theorem eL_law_716 : ev X m_law 716 [a0, a1, a2, a3] (vI y :: vI x :: st) mem = ev X m_law 717 [a0, a1, a2, a3] (vI (w32 (x + y)) :: st) mem := ke_iadd dL_law_716
theorem eL_law_717 : ev X m_law 717 [a0, a1, a2, a3] (vI x :: vX 0 :: st) mem = evb X (sget X x) m_law 718 [a0, a1, a2, a3] st mem := ke_saload dL_law_717
theorem eL_law_718 : ev X m_law 718 [a0, a1, a2, a3] (vI n0 :: vR r :: [s0]) mem = evc X (gR mem r 5 (ev X m_X5_when 0 [vR r, vI n0] [] mem)) m_law 721 [a0, a1, a2, a3] [s0] := ke_callV (m' := m_X5_when) (as := [vI n0]) (n := 1) (rest := [s0]) dL_law_718 rfl rfl rfl rfl rfl rfl (Nat.le_of_ble_eq_true rfl) (Nat.le_of_ble_eq_true rfl) (Nat.le_of_ble_eq_true rfl) rfl
theorem eL_law_721 : ev X m_law 721 [a0, a1, a2, a3] (vI y :: vI x :: st) mem = if x = y then ev X m_law 1370 [a0, a1, a2, a3] st mem else ev X m_law 724 [a0, a1, a2, a3] st mem := ke_icmp_eq dL_law_721 rfl
theorem eL_law_724 : ev X m_law 724 [a0, a1, a2, a3] st mem = ev X m_law 725 [a0, a1, a2, a3] (vI 0 :: st) mem := ke_iconst (by decide) dL_law_724
theorem eL_law_725a : ev X m_law 725 [a0, a1, a2, a3] [vI 1] mem = some (some (vI 1), mem) := ke_zreturn dL_law_725 rfl rfl
theorem eL_law_725b : ev X m_law 725 [a0, a1, a2, a3] [vI 0] mem = some (some (vI 0), mem) := ke_zreturn dL_law_725 rfl rfl
theorem eL_law_725c {c : Prop} [Decidable c] : ev X m_law 725 [a0, a1, a2, a3] [vI (if c then 1 else 0)] mem = some (some (vI (if c then 1 else 0)), mem) := ke_zreturn dL_law_725 rfl (by split <;> rfl)
theorem eL_law_726 : ev X m_law 726 [a0, vR r, a2, a3] st mem = ev X m_law 727 [a0, vR r, a2, a3] (vR r :: st) mem := ke_aload_n rfl dL_law_726
theorem eL_law_726x : ev X m_law 726 [a0, vX r, a2, a3] st mem = ev X m_law 727 [a0, vX r, a2, a3] (vX r :: st) mem := ke_xload_n rfl dL_law_726
theorem eL_law_727 : ev X m_law 727 [vR r, a1, a2, a3] st mem = ev X m_law 728 [vR r, a1, a2, a3] (vR r :: st) mem := ke_aload_n rfl dL_law_727
theorem eL_law_727x : ev X m_law 727 [vX r, a1, a2, a3] st mem = ev X m_law 728 [vX r, a1, a2, a3] (vX r :: st) mem := ke_xload_n rfl dL_law_727
theorem eL_law_728 : ev X m_law 728 [a0, a1, a2, vI x] st mem = ev X m_law 729 [a0, a1, a2, vI x] (vI x :: st) mem := ke_iload_n rfl dL_law_728
theorem eL_law_729 : ev X m_law 729 [a0, a1, a2, a3] st mem = ev X m_law 730 [a0, a1, a2, a3] (vI 1 :: st) mem := ke_iconst (by decide) dL_law_729
theorem eL_law_730 : ev X m_law 730 [a0, a1, a2, a3] (vI y :: vI x :: st) mem = ev X m_law 731 [a0, a1, a2, a3] (vI (w32 (x + y)) :: st) mem := ke_iadd dL_law_730
theorem eL_law_731 : ev X m_law 731 [a0, a1, a2, a3] (vI x :: vX 0 :: st) mem = evb X (sget X x) m_law 732 [a0, a1, a2, a3] st mem := ke_saload dL_law_731
theorem eL_law_732 : ev X m_law 732 [a0, a1, a2, a3] (vI n0 :: vR r :: []) mem = evc X (gR mem r 4 (ev X m_X4_first 0 [vR r, vI n0, vS] [] mem)) m_law 735 [a0, a1, a2, a3] [] := ke_callV (m' := m_X4_first) (as := [vI n0]) (n := 1) (rest := []) dL_law_732 rfl rfl rfl rfl rfl rfl (Nat.le_of_ble_eq_true rfl) (Nat.le_of_ble_eq_true rfl) (Nat.le_of_ble_eq_true rfl) rfl
theorem eL_law_735 : ev X m_law 735 [a0, a1, vR r, a3] st mem = ev X m_law 736 [a0, a1, vR r, a3] (vR r :: st) mem := ke_aload_n rfl dL_law_735
theorem eL_law_735x : ev X m_law 735 [a0, a1, vX r, a3] st mem = ev X m_law 736 [a0, a1, vX r, a3] (vX r :: st) mem := ke_xload_n rfl dL_law_735
theorem eL_law_736 : ev X m_law 736 [vR r, a1, a2, a3] st mem = ev X m_law 737 [vR r, a1, a2, a3] (vR r :: st) mem := ke_aload_n rfl dL_law_736
theorem eL_law_736x : ev X m_law 736 [vX r, a1, a2, a3] st mem = ev X m_law 737 [vX r, a1, a2, a3] (vX r :: st) mem := ke_xload_n rfl dL_law_736
theorem eL_law_737 : ev X m_law 737 [a0, a1, a2, vI x] st mem = ev X m_law 738 [a0, a1, a2, vI x] (vI x :: st) mem := ke_iload_n rfl dL_law_737
theorem eL_law_738 : ev X m_law 738 [a0, a1, a2, a3] st mem = ev X m_law 739 [a0, a1, a2, a3] (vI 1 :: st) mem := ke_iconst (by decide) dL_law_738
theorem eL_law_739 : ev X m_law 739 [a0, a1, a2, a3] (vI y :: vI x :: st) mem = ev X m_law 740 [a0, a1, a2, a3] (vI (w32 (x + y)) :: st) mem := ke_iadd dL_law_739
theorem eL_law_740 : ev X m_law 740 [a0, a1, a2, a3] (vI x :: vX 0 :: st) mem = evb X (sget X x) m_law 741 [a0, a1, a2, a3] st mem := ke_saload dL_law_740
theorem eL_law_741 : ev X m_law 741 [a0, a1, a2, a3] (vI n0 :: vR r :: [s0]) mem = evc X (gR mem r 5 (ev X m_X5_first 0 [vR r, vI n0, vS, vS, vS, vS, vS] [] mem)) m_law 744 [a0, a1, a2, a3] [s0] := ke_callV (m' := m_X5_first) (as := [vI n0]) (n := 1) (rest := [s0]) dL_law_741 rfl rfl rfl rfl rfl rfl (Nat.le_of_ble_eq_true rfl) (Nat.le_of_ble_eq_true rfl) (Nat.le_of_ble_eq_true rfl) rfl
theorem eL_law_744 : ev X m_law 744 [a0, a1, a2, a3] (vI y :: vI x :: st) mem = if x = y then ev X m_law 1370 [a0, a1, a2, a3] st mem else ev X m_law 747 [a0, a1, a2, a3] st mem := ke_icmp_eq dL_law_744 rfl
theorem eL_law_747 : ev X m_law 747 [a0, a1, a2, a3] st mem = ev X m_law 748 [a0, a1, a2, a3] (vI 0 :: st) mem := ke_iconst (by decide) dL_law_747
theorem eL_law_748a : ev X m_law 748 [a0, a1, a2, a3] [vI 1] mem = some (some (vI 1), mem) := ke_zreturn dL_law_748 rfl rfl
theorem eL_law_748b : ev X m_law 748 [a0, a1, a2, a3] [vI 0] mem = some (some (vI 0), mem) := ke_zreturn dL_law_748 rfl rfl
theorem eL_law_748c {c : Prop} [Decidable c] : ev X m_law 748 [a0, a1, a2, a3] [vI (if c then 1 else 0)] mem = some (some (vI (if c then 1 else 0)), mem) := ke_zreturn dL_law_748 rfl (by split <;> rfl)
theorem eL_law_749 : ev X m_law 749 [a0, vR r, a2, a3] st mem = ev X m_law 750 [a0, vR r, a2, a3] (vR r :: st) mem := ke_aload_n rfl dL_law_749
theorem eL_law_749x : ev X m_law 749 [a0, vX r, a2, a3] st mem = ev X m_law 750 [a0, vX r, a2, a3] (vX r :: st) mem := ke_xload_n rfl dL_law_749
theorem eL_law_750 : ev X m_law 750 [vR r, a1, a2, a3] st mem = ev X m_law 751 [vR r, a1, a2, a3] (vR r :: st) mem := ke_aload_n rfl dL_law_750
theorem eL_law_750x : ev X m_law 750 [vX r, a1, a2, a3] st mem = ev X m_law 751 [vX r, a1, a2, a3] (vX r :: st) mem := ke_xload_n rfl dL_law_750
theorem eL_law_751 : ev X m_law 751 [a0, a1, a2, vI x] st mem = ev X m_law 752 [a0, a1, a2, vI x] (vI x :: st) mem := ke_iload_n rfl dL_law_751
theorem eL_law_752 : ev X m_law 752 [a0, a1, a2, a3] st mem = ev X m_law 753 [a0, a1, a2, a3] (vI 1 :: st) mem := ke_iconst (by decide) dL_law_752
theorem eL_law_753 : ev X m_law 753 [a0, a1, a2, a3] (vI y :: vI x :: st) mem = ev X m_law 754 [a0, a1, a2, a3] (vI (w32 (x + y)) :: st) mem := ke_iadd dL_law_753
theorem eL_law_754 : ev X m_law 754 [a0, a1, a2, a3] (vI x :: vX 0 :: st) mem = evb X (sget X x) m_law 755 [a0, a1, a2, a3] st mem := ke_saload dL_law_754
theorem eL_law_755 : ev X m_law 755 [vR r, a1, a2, a3] st mem = ev X m_law 756 [vR r, a1, a2, a3] (vR r :: st) mem := ke_aload_n rfl dL_law_755
theorem eL_law_755x : ev X m_law 755 [vX r, a1, a2, a3] st mem = ev X m_law 756 [vX r, a1, a2, a3] (vX r :: st) mem := ke_xload_n rfl dL_law_755
theorem eL_law_756 : ev X m_law 756 [a0, a1, a2, vI x] st mem = ev X m_law 757 [a0, a1, a2, vI x] (vI x :: st) mem := ke_iload_n rfl dL_law_756
theorem eL_law_757 : ev X m_law 757 [a0, a1, a2, a3] st mem = ev X m_law 758 [a0, a1, a2, a3] (vI 2 :: st) mem := ke_iconst (by decide) dL_law_757
theorem eL_law_758 : ev X m_law 758 [a0, a1, a2, a3] (vI y :: vI x :: st) mem = ev X m_law 759 [a0, a1, a2, a3] (vI (w32 (x + y)) :: st) mem := ke_iadd dL_law_758
theorem eL_law_759 : ev X m_law 759 [a0, a1, a2, a3] (vI x :: vX 0 :: st) mem = evb X (sget X x) m_law 760 [a0, a1, a2, a3] st mem := ke_saload dL_law_759
theorem eL_law_760 : ev X m_law 760 [a0, a1, a2, a3] (vI n1 :: vI n0 :: vR r :: []) mem = evc X (gR mem r 4 (ev X m_X4_enemy 0 [vR r, vI n0, vI n1, vS] [] mem)) m_law 763 [a0, a1, a2, a3] [] := ke_callV (m' := m_X4_enemy) (as := [vI n0, vI n1]) (n := 2) (rest := []) dL_law_760 rfl rfl rfl rfl rfl rfl (Nat.le_of_ble_eq_true rfl) (Nat.le_of_ble_eq_true rfl) (Nat.le_of_ble_eq_true rfl) rfl
theorem eL_law_763 : ev X m_law 763 [a0, a1, vR r, a3] st mem = ev X m_law 764 [a0, a1, vR r, a3] (vR r :: st) mem := ke_aload_n rfl dL_law_763
theorem eL_law_763x : ev X m_law 763 [a0, a1, vX r, a3] st mem = ev X m_law 764 [a0, a1, vX r, a3] (vX r :: st) mem := ke_xload_n rfl dL_law_763
theorem eL_law_764 : ev X m_law 764 [vR r, a1, a2, a3] st mem = ev X m_law 765 [vR r, a1, a2, a3] (vR r :: st) mem := ke_aload_n rfl dL_law_764
theorem eL_law_764x : ev X m_law 764 [vX r, a1, a2, a3] st mem = ev X m_law 765 [vX r, a1, a2, a3] (vX r :: st) mem := ke_xload_n rfl dL_law_764
theorem eL_law_765 : ev X m_law 765 [a0, a1, a2, vI x] st mem = ev X m_law 766 [a0, a1, a2, vI x] (vI x :: st) mem := ke_iload_n rfl dL_law_765
theorem eL_law_766 : ev X m_law 766 [a0, a1, a2, a3] st mem = ev X m_law 767 [a0, a1, a2, a3] (vI 1 :: st) mem := ke_iconst (by decide) dL_law_766
theorem eL_law_767 : ev X m_law 767 [a0, a1, a2, a3] (vI y :: vI x :: st) mem = ev X m_law 768 [a0, a1, a2, a3] (vI (w32 (x + y)) :: st) mem := ke_iadd dL_law_767
theorem eL_law_768 : ev X m_law 768 [a0, a1, a2, a3] (vI x :: vX 0 :: st) mem = evb X (sget X x) m_law 769 [a0, a1, a2, a3] st mem := ke_saload dL_law_768
theorem eL_law_769 : ev X m_law 769 [vR r, a1, a2, a3] st mem = ev X m_law 770 [vR r, a1, a2, a3] (vR r :: st) mem := ke_aload_n rfl dL_law_769
theorem eL_law_769x : ev X m_law 769 [vX r, a1, a2, a3] st mem = ev X m_law 770 [vX r, a1, a2, a3] (vX r :: st) mem := ke_xload_n rfl dL_law_769
theorem eL_law_770 : ev X m_law 770 [a0, a1, a2, vI x] st mem = ev X m_law 771 [a0, a1, a2, vI x] (vI x :: st) mem := ke_iload_n rfl dL_law_770
theorem eL_law_771 : ev X m_law 771 [a0, a1, a2, a3] st mem = ev X m_law 772 [a0, a1, a2, a3] (vI 2 :: st) mem := ke_iconst (by decide) dL_law_771
theorem eL_law_772 : ev X m_law 772 [a0, a1, a2, a3] (vI y :: vI x :: st) mem = ev X m_law 773 [a0, a1, a2, a3] (vI (w32 (x + y)) :: st) mem := ke_iadd dL_law_772
theorem eL_law_773 : ev X m_law 773 [a0, a1, a2, a3] (vI x :: vX 0 :: st) mem = evb X (sget X x) m_law 774 [a0, a1, a2, a3] st mem := ke_saload dL_law_773
theorem eL_law_774 : ev X m_law 774 [a0, a1, a2, a3] (vI n1 :: vI n0 :: vR r :: [s0]) mem = evc X (gR mem r 5 (ev X m_X5_enemy 0 [vR r, vI n0, vI n1, vS, vS] [] mem)) m_law 777 [a0, a1, a2, a3] [s0] := ke_callV (m' := m_X5_enemy) (as := [vI n0, vI n1]) (n := 2) (rest := [s0]) dL_law_774 rfl rfl rfl rfl rfl rfl (Nat.le_of_ble_eq_true rfl) (Nat.le_of_ble_eq_true rfl) (Nat.le_of_ble_eq_true rfl) rfl
theorem eL_law_777 : ev X m_law 777 [a0, a1, a2, a3] (vI y :: vI x :: st) mem = if x = y then ev X m_law 1370 [a0, a1, a2, a3] st mem else ev X m_law 780 [a0, a1, a2, a3] st mem := ke_icmp_eq dL_law_777 rfl
theorem eL_law_780 : ev X m_law 780 [a0, a1, a2, a3] st mem = ev X m_law 781 [a0, a1, a2, a3] (vI 0 :: st) mem := ke_iconst (by decide) dL_law_780
theorem eL_law_781a : ev X m_law 781 [a0, a1, a2, a3] [vI 1] mem = some (some (vI 1), mem) := ke_zreturn dL_law_781 rfl rfl
theorem eL_law_781b : ev X m_law 781 [a0, a1, a2, a3] [vI 0] mem = some (some (vI 0), mem) := ke_zreturn dL_law_781 rfl rfl
theorem eL_law_781c {c : Prop} [Decidable c] : ev X m_law 781 [a0, a1, a2, a3] [vI (if c then 1 else 0)] mem = some (some (vI (if c then 1 else 0)), mem) := ke_zreturn dL_law_781 rfl (by split <;> rfl)
theorem eL_law_782 : ev X m_law 782 [a0, vR r, a2, a3] st mem = ev X m_law 783 [a0, vR r, a2, a3] (vR r :: st) mem := ke_aload_n rfl dL_law_782
theorem eL_law_782x : ev X m_law 782 [a0, vX r, a2, a3] st mem = ev X m_law 783 [a0, vX r, a2, a3] (vX r :: st) mem := ke_xload_n rfl dL_law_782
theorem eL_law_783 : ev X m_law 783 [vR r, a1, a2, a3] st mem = ev X m_law 784 [vR r, a1, a2, a3] (vR r :: st) mem := ke_aload_n rfl dL_law_783
theorem eL_law_783x : ev X m_law 783 [vX r, a1, a2, a3] st mem = ev X m_law 784 [vX r, a1, a2, a3] (vX r :: st) mem := ke_xload_n rfl dL_law_783
theorem eL_law_784 : ev X m_law 784 [a0, a1, a2, vI x] st mem = ev X m_law 785 [a0, a1, a2, vI x] (vI x :: st) mem := ke_iload_n rfl dL_law_784
theorem eL_law_785 : ev X m_law 785 [a0, a1, a2, a3] st mem = ev X m_law 786 [a0, a1, a2, a3] (vI 1 :: st) mem := ke_iconst (by decide) dL_law_785
theorem eL_law_786 : ev X m_law 786 [a0, a1, a2, a3] (vI y :: vI x :: st) mem = ev X m_law 787 [a0, a1, a2, a3] (vI (w32 (x + y)) :: st) mem := ke_iadd dL_law_786
theorem eL_law_787 : ev X m_law 787 [a0, a1, a2, a3] (vI x :: vX 0 :: st) mem = evb X (sget X x) m_law 788 [a0, a1, a2, a3] st mem := ke_saload dL_law_787
theorem eL_law_788 : ev X m_law 788 [vR r, a1, a2, a3] st mem = ev X m_law 789 [vR r, a1, a2, a3] (vR r :: st) mem := ke_aload_n rfl dL_law_788
theorem eL_law_788x : ev X m_law 788 [vX r, a1, a2, a3] st mem = ev X m_law 789 [vX r, a1, a2, a3] (vX r :: st) mem := ke_xload_n rfl dL_law_788
theorem eL_law_789 : ev X m_law 789 [a0, a1, a2, vI x] st mem = ev X m_law 790 [a0, a1, a2, vI x] (vI x :: st) mem := ke_iload_n rfl dL_law_789
theorem eL_law_790 : ev X m_law 790 [a0, a1, a2, a3] st mem = ev X m_law 791 [a0, a1, a2, a3] (vI 2 :: st) mem := ke_iconst (by decide) dL_law_790
theorem eL_law_791 : ev X m_law 791 [a0, a1, a2, a3] (vI y :: vI x :: st) mem = ev X m_law 792 [a0, a1, a2, a3] (vI (w32 (x + y)) :: st) mem := ke_iadd dL_law_791
theorem eL_law_792 : ev X m_law 792 [a0, a1, a2, a3] (vI x :: vX 0 :: st) mem = evb X (sget X x) m_law 793 [a0, a1, a2, a3] st mem := ke_saload dL_law_792
theorem eL_law_793 : ev X m_law 793 [a0, a1, a2, a3] (vI n1 :: vI n0 :: vR r :: []) mem = evc X (gR mem r 4 (ev X m_X4_malice 0 [vR r, vI n0, vI n1] [] mem)) m_law 796 [a0, a1, a2, a3] [] := ke_callV (m' := m_X4_malice) (as := [vI n0, vI n1]) (n := 2) (rest := []) dL_law_793 rfl rfl rfl rfl rfl rfl (Nat.le_of_ble_eq_true rfl) (Nat.le_of_ble_eq_true rfl) (Nat.le_of_ble_eq_true rfl) rfl
theorem eL_law_796 : ev X m_law 796 [a0, a1, vR r, a3] st mem = ev X m_law 797 [a0, a1, vR r, a3] (vR r :: st) mem := ke_aload_n rfl dL_law_796
theorem eL_law_796x : ev X m_law 796 [a0, a1, vX r, a3] st mem = ev X m_law 797 [a0, a1, vX r, a3] (vX r :: st) mem := ke_xload_n rfl dL_law_796
theorem eL_law_797 : ev X m_law 797 [vR r, a1, a2, a3] st mem = ev X m_law 798 [vR r, a1, a2, a3] (vR r :: st) mem := ke_aload_n rfl dL_law_797
theorem eL_law_797x : ev X m_law 797 [vX r, a1, a2, a3] st mem = ev X m_law 798 [vX r, a1, a2, a3] (vX r :: st) mem := ke_xload_n rfl dL_law_797
theorem eL_law_798 : ev X m_law 798 [a0, a1, a2, vI x] st mem = ev X m_law 799 [a0, a1, a2, vI x] (vI x :: st) mem := ke_iload_n rfl dL_law_798
theorem eL_law_799 : ev X m_law 799 [a0, a1, a2, a3] st mem = ev X m_law 800 [a0, a1, a2, a3] (vI 1 :: st) mem := ke_iconst (by decide) dL_law_799
theorem eL_law_800 : ev X m_law 800 [a0, a1, a2, a3] (vI y :: vI x :: st) mem = ev X m_law 801 [a0, a1, a2, a3] (vI (w32 (x + y)) :: st) mem := ke_iadd dL_law_800
theorem eL_law_801 : ev X m_law 801 [a0, a1, a2, a3] (vI x :: vX 0 :: st) mem = evb X (sget X x) m_law 802 [a0, a1, a2, a3] st mem := ke_saload dL_law_801
theorem eL_law_802 : ev X m_law 802 [vR r, a1, a2, a3] st mem = ev X m_law 803 [vR r, a1, a2, a3] (vR r :: st) mem := ke_aload_n rfl dL_law_802
theorem eL_law_802x : ev X m_law 802 [vX r, a1, a2, a3] st mem = ev X m_law 803 [vX r, a1, a2, a3] (vX r :: st) mem := ke_xload_n rfl dL_law_802
theorem eL_law_803 : ev X m_law 803 [a0, a1, a2, vI x] st mem = ev X m_law 804 [a0, a1, a2, vI x] (vI x :: st) mem := ke_iload_n rfl dL_law_803
theorem eL_law_804 : ev X m_law 804 [a0, a1, a2, a3] st mem = ev X m_law 805 [a0, a1, a2, a3] (vI 2 :: st) mem := ke_iconst (by decide) dL_law_804
theorem eL_law_805 : ev X m_law 805 [a0, a1, a2, a3] (vI y :: vI x :: st) mem = ev X m_law 806 [a0, a1, a2, a3] (vI (w32 (x + y)) :: st) mem := ke_iadd dL_law_805
theorem eL_law_806 : ev X m_law 806 [a0, a1, a2, a3] (vI x :: vX 0 :: st) mem = evb X (sget X x) m_law 807 [a0, a1, a2, a3] st mem := ke_saload dL_law_806
theorem eL_law_807 : ev X m_law 807 [a0, a1, a2, a3] (vI n1 :: vI n0 :: vR r :: [s0]) mem = evc X (gR mem r 5 (ev X m_X5_malice 0 [vR r, vI n0, vI n1] [] mem)) m_law 810 [a0, a1, a2, a3] [s0] := ke_callV (m' := m_X5_malice) (as := [vI n0, vI n1]) (n := 2) (rest := [s0]) dL_law_807 rfl rfl rfl rfl rfl rfl (Nat.le_of_ble_eq_true rfl) (Nat.le_of_ble_eq_true rfl) (Nat.le_of_ble_eq_true rfl) rfl
theorem eL_law_810 : ev X m_law 810 [a0, a1, a2, a3] (vI y :: vI x :: st) mem = if x = y then ev X m_law 1370 [a0, a1, a2, a3] st mem else ev X m_law 813 [a0, a1, a2, a3] st mem := ke_icmp_eq dL_law_810 rfl
theorem eL_law_813 : ev X m_law 813 [a0, a1, a2, a3] st mem = ev X m_law 814 [a0, a1, a2, a3] (vI 0 :: st) mem := ke_iconst (by decide) dL_law_813
theorem eL_law_814a : ev X m_law 814 [a0, a1, a2, a3] [vI 1] mem = some (some (vI 1), mem) := ke_zreturn dL_law_814 rfl rfl
theorem eL_law_814b : ev X m_law 814 [a0, a1, a2, a3] [vI 0] mem = some (some (vI 0), mem) := ke_zreturn dL_law_814 rfl rfl
theorem eL_law_814c {c : Prop} [Decidable c] : ev X m_law 814 [a0, a1, a2, a3] [vI (if c then 1 else 0)] mem = some (some (vI (if c then 1 else 0)), mem) := ke_zreturn dL_law_814 rfl (by split <;> rfl)
theorem eL_law_815 : ev X m_law 815 [a0, vR r, a2, a3] st mem = ev X m_law 816 [a0, vR r, a2, a3] (vR r :: st) mem := ke_aload_n rfl dL_law_815
theorem eL_law_815x : ev X m_law 815 [a0, vX r, a2, a3] st mem = ev X m_law 816 [a0, vX r, a2, a3] (vX r :: st) mem := ke_xload_n rfl dL_law_815
theorem eL_law_816 : ev X m_law 816 [a0, a1, a2, a3] (vR r :: []) mem = evc X (gR mem r 4 (ev X m_X4_loved 0 [vR r, vS, vS] [] mem)) m_law 819 [a0, a1, a2, a3] [] := ke_callV (m' := m_X4_loved) (as := []) (n := 0) (rest := []) dL_law_816 rfl rfl rfl rfl rfl rfl (Nat.le_of_ble_eq_true rfl) (Nat.le_of_ble_eq_true rfl) (Nat.le_of_ble_eq_true rfl) rfl
theorem eL_law_819 : ev X m_law 819 [a0, a1, vR r, a3] st mem = ev X m_law 820 [a0, a1, vR r, a3] (vR r :: st) mem := ke_aload_n rfl dL_law_819
theorem eL_law_819x : ev X m_law 819 [a0, a1, vX r, a3] st mem = ev X m_law 820 [a0, a1, vX r, a3] (vX r :: st) mem := ke_xload_n rfl dL_law_819
theorem eL_law_820 : ev X m_law 820 [a0, a1, a2, a3] (vR r :: [s0]) mem = evc X (gR mem r 5 (ev X m_X5_loved 0 [vR r, vS, vS] [] mem)) m_law 823 [a0, a1, a2, a3] [s0] := ke_callV (m' := m_X5_loved) (as := []) (n := 0) (rest := [s0]) dL_law_820 rfl rfl rfl rfl rfl rfl (Nat.le_of_ble_eq_true rfl) (Nat.le_of_ble_eq_true rfl) (Nat.le_of_ble_eq_true rfl) rfl
theorem eL_law_823 : ev X m_law 823 [a0, a1, a2, a3] (vI y :: vI x :: st) mem = if x = y then ev X m_law 1370 [a0, a1, a2, a3] st mem else ev X m_law 826 [a0, a1, a2, a3] st mem := ke_icmp_eq dL_law_823 rfl
theorem eL_law_826 : ev X m_law 826 [a0, a1, a2, a3] st mem = ev X m_law 827 [a0, a1, a2, a3] (vI 0 :: st) mem := ke_iconst (by decide) dL_law_826
theorem eL_law_827a : ev X m_law 827 [a0, a1, a2, a3] [vI 1] mem = some (some (vI 1), mem) := ke_zreturn dL_law_827 rfl rfl
theorem eL_law_827b : ev X m_law 827 [a0, a1, a2, a3] [vI 0] mem = some (some (vI 0), mem) := ke_zreturn dL_law_827 rfl rfl
theorem eL_law_827c {c : Prop} [Decidable c] : ev X m_law 827 [a0, a1, a2, a3] [vI (if c then 1 else 0)] mem = some (some (vI (if c then 1 else 0)), mem) := ke_zreturn dL_law_827 rfl (by split <;> rfl)
theorem eL_law_828 : ev X m_law 828 [a0, vR r, a2, a3] st mem = ev X m_law 829 [a0, vR r, a2, a3] (vR r :: st) mem := ke_aload_n rfl dL_law_828
theorem eL_law_828x : ev X m_law 828 [a0, vX r, a2, a3] st mem = ev X m_law 829 [a0, vX r, a2, a3] (vX r :: st) mem := ke_xload_n rfl dL_law_828
theorem eL_law_829 : ev X m_law 829 [vR r, a1, a2, a3] st mem = ev X m_law 830 [vR r, a1, a2, a3] (vR r :: st) mem := ke_aload_n rfl dL_law_829
theorem eL_law_829x : ev X m_law 829 [vX r, a1, a2, a3] st mem = ev X m_law 830 [vX r, a1, a2, a3] (vX r :: st) mem := ke_xload_n rfl dL_law_829
theorem eL_law_830 : ev X m_law 830 [a0, a1, a2, vI x] st mem = ev X m_law 831 [a0, a1, a2, vI x] (vI x :: st) mem := ke_iload_n rfl dL_law_830
theorem eL_law_831 : ev X m_law 831 [a0, a1, a2, a3] st mem = ev X m_law 832 [a0, a1, a2, a3] (vI 1 :: st) mem := ke_iconst (by decide) dL_law_831
theorem eL_law_832 : ev X m_law 832 [a0, a1, a2, a3] (vI y :: vI x :: st) mem = ev X m_law 833 [a0, a1, a2, a3] (vI (w32 (x + y)) :: st) mem := ke_iadd dL_law_832
theorem eL_law_833 : ev X m_law 833 [a0, a1, a2, a3] (vI x :: vX 0 :: st) mem = evb X (sget X x) m_law 834 [a0, a1, a2, a3] st mem := ke_saload dL_law_833
theorem eL_law_834 : ev X m_law 834 [a0, a1, a2, a3] (vI n0 :: vR r :: []) mem = evc X (gR mem r 4 (ev X m_X4_busiest 0 [vR r, vI n0, vS, vS, vS, vS] [] mem)) m_law 837 [a0, a1, a2, a3] [] := ke_callV (m' := m_X4_busiest) (as := [vI n0]) (n := 1) (rest := []) dL_law_834 rfl rfl rfl rfl rfl rfl (Nat.le_of_ble_eq_true rfl) (Nat.le_of_ble_eq_true rfl) (Nat.le_of_ble_eq_true rfl) rfl
theorem eL_law_837 : ev X m_law 837 [a0, a1, vR r, a3] st mem = ev X m_law 838 [a0, a1, vR r, a3] (vR r :: st) mem := ke_aload_n rfl dL_law_837
theorem eL_law_837x : ev X m_law 837 [a0, a1, vX r, a3] st mem = ev X m_law 838 [a0, a1, vX r, a3] (vX r :: st) mem := ke_xload_n rfl dL_law_837
theorem eL_law_838 : ev X m_law 838 [vR r, a1, a2, a3] st mem = ev X m_law 839 [vR r, a1, a2, a3] (vR r :: st) mem := ke_aload_n rfl dL_law_838
theorem eL_law_838x : ev X m_law 838 [vX r, a1, a2, a3] st mem = ev X m_law 839 [vX r, a1, a2, a3] (vX r :: st) mem := ke_xload_n rfl dL_law_838
theorem eL_law_839 : ev X m_law 839 [a0, a1, a2, vI x] st mem = ev X m_law 840 [a0, a1, a2, vI x] (vI x :: st) mem := ke_iload_n rfl dL_law_839
theorem eL_law_840 : ev X m_law 840 [a0, a1, a2, a3] st mem = ev X m_law 841 [a0, a1, a2, a3] (vI 1 :: st) mem := ke_iconst (by decide) dL_law_840
theorem eL_law_841 : ev X m_law 841 [a0, a1, a2, a3] (vI y :: vI x :: st) mem = ev X m_law 842 [a0, a1, a2, a3] (vI (w32 (x + y)) :: st) mem := ke_iadd dL_law_841
theorem eL_law_842 : ev X m_law 842 [a0, a1, a2, a3] (vI x :: vX 0 :: st) mem = evb X (sget X x) m_law 843 [a0, a1, a2, a3] st mem := ke_saload dL_law_842
theorem eL_law_843 : ev X m_law 843 [a0, a1, a2, a3] (vI n0 :: vR r :: [s0]) mem = evc X (gR mem r 5 (ev X m_X5_busiest 0 [vR r, vI n0, vS, vS, vS] [] mem)) m_law 846 [a0, a1, a2, a3] [s0] := ke_callV (m' := m_X5_busiest) (as := [vI n0]) (n := 1) (rest := [s0]) dL_law_843 rfl rfl rfl rfl rfl rfl (Nat.le_of_ble_eq_true rfl) (Nat.le_of_ble_eq_true rfl) (Nat.le_of_ble_eq_true rfl) rfl
theorem eL_law_846 : ev X m_law 846 [a0, a1, a2, a3] (vI y :: vI x :: st) mem = if x = y then ev X m_law 1370 [a0, a1, a2, a3] st mem else ev X m_law 849 [a0, a1, a2, a3] st mem := ke_icmp_eq dL_law_846 rfl
theorem eL_law_849 : ev X m_law 849 [a0, a1, a2, a3] st mem = ev X m_law 850 [a0, a1, a2, a3] (vI 0 :: st) mem := ke_iconst (by decide) dL_law_849
theorem eL_law_850a : ev X m_law 850 [a0, a1, a2, a3] [vI 1] mem = some (some (vI 1), mem) := ke_zreturn dL_law_850 rfl rfl
theorem eL_law_850b : ev X m_law 850 [a0, a1, a2, a3] [vI 0] mem = some (some (vI 0), mem) := ke_zreturn dL_law_850 rfl rfl
theorem eL_law_850c {c : Prop} [Decidable c] : ev X m_law 850 [a0, a1, a2, a3] [vI (if c then 1 else 0)] mem = some (some (vI (if c then 1 else 0)), mem) := ke_zreturn dL_law_850 rfl (by split <;> rfl)
theorem eL_law_851 : ev X m_law 851 [a0, vR r, a2, a3] st mem = ev X m_law 852 [a0, vR r, a2, a3] (vR r :: st) mem := ke_aload_n rfl dL_law_851
theorem eL_law_851x : ev X m_law 851 [a0, vX r, a2, a3] st mem = ev X m_law 852 [a0, vX r, a2, a3] (vX r :: st) mem := ke_xload_n rfl dL_law_851
theorem eL_law_852 : ev X m_law 852 [vR r, a1, a2, a3] st mem = ev X m_law 853 [vR r, a1, a2, a3] (vR r :: st) mem := ke_aload_n rfl dL_law_852
theorem eL_law_852x : ev X m_law 852 [vX r, a1, a2, a3] st mem = ev X m_law 853 [vX r, a1, a2, a3] (vX r :: st) mem := ke_xload_n rfl dL_law_852
theorem eL_law_853 : ev X m_law 853 [a0, a1, a2, vI x] st mem = ev X m_law 854 [a0, a1, a2, vI x] (vI x :: st) mem := ke_iload_n rfl dL_law_853
theorem eL_law_854 : ev X m_law 854 [a0, a1, a2, a3] st mem = ev X m_law 855 [a0, a1, a2, a3] (vI 1 :: st) mem := ke_iconst (by decide) dL_law_854
theorem eL_law_855 : ev X m_law 855 [a0, a1, a2, a3] (vI y :: vI x :: st) mem = ev X m_law 856 [a0, a1, a2, a3] (vI (w32 (x + y)) :: st) mem := ke_iadd dL_law_855
theorem eL_law_856 : ev X m_law 856 [a0, a1, a2, a3] (vI x :: vX 0 :: st) mem = evb X (sget X x) m_law 857 [a0, a1, a2, a3] st mem := ke_saload dL_law_856
theorem eL_law_857 : ev X m_law 857 [vR r, a1, a2, a3] st mem = ev X m_law 858 [vR r, a1, a2, a3] (vR r :: st) mem := ke_aload_n rfl dL_law_857
theorem eL_law_857x : ev X m_law 857 [vX r, a1, a2, a3] st mem = ev X m_law 858 [vX r, a1, a2, a3] (vX r :: st) mem := ke_xload_n rfl dL_law_857
theorem eL_law_858 : ev X m_law 858 [a0, a1, a2, vI x] st mem = ev X m_law 859 [a0, a1, a2, vI x] (vI x :: st) mem := ke_iload_n rfl dL_law_858
theorem eL_law_859 : ev X m_law 859 [a0, a1, a2, a3] st mem = ev X m_law 860 [a0, a1, a2, a3] (vI 2 :: st) mem := ke_iconst (by decide) dL_law_859
theorem eL_law_860 : ev X m_law 860 [a0, a1, a2, a3] (vI y :: vI x :: st) mem = ev X m_law 861 [a0, a1, a2, a3] (vI (w32 (x + y)) :: st) mem := ke_iadd dL_law_860
theorem eL_law_861 : ev X m_law 861 [a0, a1, a2, a3] (vI x :: vX 0 :: st) mem = evb X (sget X x) m_law 862 [a0, a1, a2, a3] st mem := ke_saload dL_law_861
theorem eL_law_862 : ev X m_law 862 [a0, a1, a2, a3] (vI n1 :: vI n0 :: vR r :: []) mem = evc X (gR mem r 4 (ev X m_X4_ring 0 [vR r, vI n0, vI n1, vS, vS, vS, vS] [] mem)) m_law 865 [a0, a1, a2, a3] [] := ke_callV (m' := m_X4_ring) (as := [vI n0, vI n1]) (n := 2) (rest := []) dL_law_862 rfl rfl rfl rfl rfl rfl (Nat.le_of_ble_eq_true rfl) (Nat.le_of_ble_eq_true rfl) (Nat.le_of_ble_eq_true rfl) rfl
theorem eL_law_865 : ev X m_law 865 [a0, a1, vR r, a3] st mem = ev X m_law 866 [a0, a1, vR r, a3] (vR r :: st) mem := ke_aload_n rfl dL_law_865
theorem eL_law_865x : ev X m_law 865 [a0, a1, vX r, a3] st mem = ev X m_law 866 [a0, a1, vX r, a3] (vX r :: st) mem := ke_xload_n rfl dL_law_865
theorem eL_law_866 : ev X m_law 866 [vR r, a1, a2, a3] st mem = ev X m_law 867 [vR r, a1, a2, a3] (vR r :: st) mem := ke_aload_n rfl dL_law_866
theorem eL_law_866x : ev X m_law 866 [vX r, a1, a2, a3] st mem = ev X m_law 867 [vX r, a1, a2, a3] (vX r :: st) mem := ke_xload_n rfl dL_law_866
theorem eL_law_867 : ev X m_law 867 [a0, a1, a2, vI x] st mem = ev X m_law 868 [a0, a1, a2, vI x] (vI x :: st) mem := ke_iload_n rfl dL_law_867
theorem eL_law_868 : ev X m_law 868 [a0, a1, a2, a3] st mem = ev X m_law 869 [a0, a1, a2, a3] (vI 1 :: st) mem := ke_iconst (by decide) dL_law_868
theorem eL_law_869 : ev X m_law 869 [a0, a1, a2, a3] (vI y :: vI x :: st) mem = ev X m_law 870 [a0, a1, a2, a3] (vI (w32 (x + y)) :: st) mem := ke_iadd dL_law_869
theorem eL_law_870 : ev X m_law 870 [a0, a1, a2, a3] (vI x :: vX 0 :: st) mem = evb X (sget X x) m_law 871 [a0, a1, a2, a3] st mem := ke_saload dL_law_870
theorem eL_law_871 : ev X m_law 871 [vR r, a1, a2, a3] st mem = ev X m_law 872 [vR r, a1, a2, a3] (vR r :: st) mem := ke_aload_n rfl dL_law_871
theorem eL_law_871x : ev X m_law 871 [vX r, a1, a2, a3] st mem = ev X m_law 872 [vX r, a1, a2, a3] (vX r :: st) mem := ke_xload_n rfl dL_law_871
theorem eL_law_872 : ev X m_law 872 [a0, a1, a2, vI x] st mem = ev X m_law 873 [a0, a1, a2, vI x] (vI x :: st) mem := ke_iload_n rfl dL_law_872
theorem eL_law_873 : ev X m_law 873 [a0, a1, a2, a3] st mem = ev X m_law 874 [a0, a1, a2, a3] (vI 2 :: st) mem := ke_iconst (by decide) dL_law_873
theorem eL_law_874 : ev X m_law 874 [a0, a1, a2, a3] (vI y :: vI x :: st) mem = ev X m_law 875 [a0, a1, a2, a3] (vI (w32 (x + y)) :: st) mem := ke_iadd dL_law_874
theorem eL_law_875 : ev X m_law 875 [a0, a1, a2, a3] (vI x :: vX 0 :: st) mem = evb X (sget X x) m_law 876 [a0, a1, a2, a3] st mem := ke_saload dL_law_875
theorem eL_law_876 : ev X m_law 876 [a0, a1, a2, a3] (vI n1 :: vI n0 :: vR r :: [s0]) mem = evc X (gR mem r 5 (ev X m_X5_ring 0 [vR r, vI n0, vI n1, vS, vS, vS] [] mem)) m_law 879 [a0, a1, a2, a3] [s0] := ke_callV (m' := m_X5_ring) (as := [vI n0, vI n1]) (n := 2) (rest := [s0]) dL_law_876 rfl rfl rfl rfl rfl rfl (Nat.le_of_ble_eq_true rfl) (Nat.le_of_ble_eq_true rfl) (Nat.le_of_ble_eq_true rfl) rfl
theorem eL_law_879 : ev X m_law 879 [a0, a1, a2, a3] (vI y :: vI x :: st) mem = if x = y then ev X m_law 1370 [a0, a1, a2, a3] st mem else ev X m_law 882 [a0, a1, a2, a3] st mem := ke_icmp_eq dL_law_879 rfl
theorem eL_law_882 : ev X m_law 882 [a0, a1, a2, a3] st mem = ev X m_law 883 [a0, a1, a2, a3] (vI 0 :: st) mem := ke_iconst (by decide) dL_law_882
theorem eL_law_883a : ev X m_law 883 [a0, a1, a2, a3] [vI 1] mem = some (some (vI 1), mem) := ke_zreturn dL_law_883 rfl rfl
theorem eL_law_883b : ev X m_law 883 [a0, a1, a2, a3] [vI 0] mem = some (some (vI 0), mem) := ke_zreturn dL_law_883 rfl rfl
theorem eL_law_883c {c : Prop} [Decidable c] : ev X m_law 883 [a0, a1, a2, a3] [vI (if c then 1 else 0)] mem = some (some (vI (if c then 1 else 0)), mem) := ke_zreturn dL_law_883 rfl (by split <;> rfl)
theorem eL_law_884 : ev X m_law 884 [a0, vR r, a2, a3] st mem = ev X m_law 885 [a0, vR r, a2, a3] (vR r :: st) mem := ke_aload_n rfl dL_law_884
theorem eL_law_884x : ev X m_law 884 [a0, vX r, a2, a3] st mem = ev X m_law 885 [a0, vX r, a2, a3] (vX r :: st) mem := ke_xload_n rfl dL_law_884
theorem eL_law_885 : ev X m_law 885 [vR r, a1, a2, a3] st mem = ev X m_law 886 [vR r, a1, a2, a3] (vR r :: st) mem := ke_aload_n rfl dL_law_885
theorem eL_law_885x : ev X m_law 885 [vX r, a1, a2, a3] st mem = ev X m_law 886 [vX r, a1, a2, a3] (vX r :: st) mem := ke_xload_n rfl dL_law_885
theorem eL_law_886 : ev X m_law 886 [a0, a1, a2, vI x] st mem = ev X m_law 887 [a0, a1, a2, vI x] (vI x :: st) mem := ke_iload_n rfl dL_law_886
theorem eL_law_887 : ev X m_law 887 [a0, a1, a2, a3] st mem = ev X m_law 888 [a0, a1, a2, a3] (vI 1 :: st) mem := ke_iconst (by decide) dL_law_887
theorem eL_law_888 : ev X m_law 888 [a0, a1, a2, a3] (vI y :: vI x :: st) mem = ev X m_law 889 [a0, a1, a2, a3] (vI (w32 (x + y)) :: st) mem := ke_iadd dL_law_888
theorem eL_law_889 : ev X m_law 889 [a0, a1, a2, a3] (vI x :: vX 0 :: st) mem = evb X (sget X x) m_law 890 [a0, a1, a2, a3] st mem := ke_saload dL_law_889
theorem eL_law_890 : ev X m_law 890 [a0, a1, a2, a3] (vI n0 :: vR r :: []) mem = evc X (gR mem r 4 (ev X m_X4_slight 0 [vR r, vI n0, vS] [] mem)) m_law 893 [a0, a1, a2, a3] [] := ke_callV (m' := m_X4_slight) (as := [vI n0]) (n := 1) (rest := []) dL_law_890 rfl rfl rfl rfl rfl rfl (Nat.le_of_ble_eq_true rfl) (Nat.le_of_ble_eq_true rfl) (Nat.le_of_ble_eq_true rfl) rfl
theorem eL_law_893 : ev X m_law 893 [a0, a1, vR r, a3] st mem = ev X m_law 894 [a0, a1, vR r, a3] (vR r :: st) mem := ke_aload_n rfl dL_law_893
theorem eL_law_893x : ev X m_law 893 [a0, a1, vX r, a3] st mem = ev X m_law 894 [a0, a1, vX r, a3] (vX r :: st) mem := ke_xload_n rfl dL_law_893
theorem eL_law_894 : ev X m_law 894 [vR r, a1, a2, a3] st mem = ev X m_law 895 [vR r, a1, a2, a3] (vR r :: st) mem := ke_aload_n rfl dL_law_894
theorem eL_law_894x : ev X m_law 894 [vX r, a1, a2, a3] st mem = ev X m_law 895 [vX r, a1, a2, a3] (vX r :: st) mem := ke_xload_n rfl dL_law_894
theorem eL_law_895 : ev X m_law 895 [a0, a1, a2, vI x] st mem = ev X m_law 896 [a0, a1, a2, vI x] (vI x :: st) mem := ke_iload_n rfl dL_law_895
theorem eL_law_896 : ev X m_law 896 [a0, a1, a2, a3] st mem = ev X m_law 897 [a0, a1, a2, a3] (vI 1 :: st) mem := ke_iconst (by decide) dL_law_896
theorem eL_law_897 : ev X m_law 897 [a0, a1, a2, a3] (vI y :: vI x :: st) mem = ev X m_law 898 [a0, a1, a2, a3] (vI (w32 (x + y)) :: st) mem := ke_iadd dL_law_897
theorem eL_law_898 : ev X m_law 898 [a0, a1, a2, a3] (vI x :: vX 0 :: st) mem = evb X (sget X x) m_law 899 [a0, a1, a2, a3] st mem := ke_saload dL_law_898
theorem eL_law_899 : ev X m_law 899 [a0, a1, a2, a3] (vI n0 :: vR r :: [s0]) mem = evc X (gR mem r 5 (ev X m_X5_slight 0 [vR r, vI n0, vS, vS, vS, vS, vS] [] mem)) m_law 902 [a0, a1, a2, a3] [s0] := ke_callV (m' := m_X5_slight) (as := [vI n0]) (n := 1) (rest := [s0]) dL_law_899 rfl rfl rfl rfl rfl rfl (Nat.le_of_ble_eq_true rfl) (Nat.le_of_ble_eq_true rfl) (Nat.le_of_ble_eq_true rfl) rfl
theorem eL_law_902 : ev X m_law 902 [a0, a1, a2, a3] (vI y :: vI x :: st) mem = if x = y then ev X m_law 1370 [a0, a1, a2, a3] st mem else ev X m_law 905 [a0, a1, a2, a3] st mem := ke_icmp_eq dL_law_902 rfl
theorem eL_law_905 : ev X m_law 905 [a0, a1, a2, a3] st mem = ev X m_law 906 [a0, a1, a2, a3] (vI 0 :: st) mem := ke_iconst (by decide) dL_law_905
theorem eL_law_906a : ev X m_law 906 [a0, a1, a2, a3] [vI 1] mem = some (some (vI 1), mem) := ke_zreturn dL_law_906 rfl rfl
theorem eL_law_906b : ev X m_law 906 [a0, a1, a2, a3] [vI 0] mem = some (some (vI 0), mem) := ke_zreturn dL_law_906 rfl rfl
theorem eL_law_906c {c : Prop} [Decidable c] : ev X m_law 906 [a0, a1, a2, a3] [vI (if c then 1 else 0)] mem = some (some (vI (if c then 1 else 0)), mem) := ke_zreturn dL_law_906 rfl (by split <;> rfl)
theorem eL_law_907 : ev X m_law 907 [a0, vR r, a2, a3] st mem = ev X m_law 908 [a0, vR r, a2, a3] (vR r :: st) mem := ke_aload_n rfl dL_law_907
theorem eL_law_907x : ev X m_law 907 [a0, vX r, a2, a3] st mem = ev X m_law 908 [a0, vX r, a2, a3] (vX r :: st) mem := ke_xload_n rfl dL_law_907
theorem eL_law_908 : ev X m_law 908 [vR r, a1, a2, a3] st mem = ev X m_law 909 [vR r, a1, a2, a3] (vR r :: st) mem := ke_aload_n rfl dL_law_908
theorem eL_law_908x : ev X m_law 908 [vX r, a1, a2, a3] st mem = ev X m_law 909 [vX r, a1, a2, a3] (vX r :: st) mem := ke_xload_n rfl dL_law_908
theorem eL_law_909 : ev X m_law 909 [a0, a1, a2, vI x] st mem = ev X m_law 910 [a0, a1, a2, vI x] (vI x :: st) mem := ke_iload_n rfl dL_law_909
theorem eL_law_910 : ev X m_law 910 [a0, a1, a2, a3] st mem = ev X m_law 911 [a0, a1, a2, a3] (vI 1 :: st) mem := ke_iconst (by decide) dL_law_910
theorem eL_law_911 : ev X m_law 911 [a0, a1, a2, a3] (vI y :: vI x :: st) mem = ev X m_law 912 [a0, a1, a2, a3] (vI (w32 (x + y)) :: st) mem := ke_iadd dL_law_911
theorem eL_law_912 : ev X m_law 912 [a0, a1, a2, a3] (vI x :: vX 0 :: st) mem = evb X (sget X x) m_law 913 [a0, a1, a2, a3] st mem := ke_saload dL_law_912
theorem eL_law_913 : ev X m_law 913 [vR r, a1, a2, a3] st mem = ev X m_law 914 [vR r, a1, a2, a3] (vR r :: st) mem := ke_aload_n rfl dL_law_913
theorem eL_law_913x : ev X m_law 913 [vX r, a1, a2, a3] st mem = ev X m_law 914 [vX r, a1, a2, a3] (vX r :: st) mem := ke_xload_n rfl dL_law_913
theorem eL_law_914 : ev X m_law 914 [a0, a1, a2, vI x] st mem = ev X m_law 915 [a0, a1, a2, vI x] (vI x :: st) mem := ke_iload_n rfl dL_law_914
theorem eL_law_915 : ev X m_law 915 [a0, a1, a2, a3] st mem = ev X m_law 916 [a0, a1, a2, a3] (vI 2 :: st) mem := ke_iconst (by decide) dL_law_915
theorem eL_law_916 : ev X m_law 916 [a0, a1, a2, a3] (vI y :: vI x :: st) mem = ev X m_law 917 [a0, a1, a2, a3] (vI (w32 (x + y)) :: st) mem := ke_iadd dL_law_916
theorem eL_law_917 : ev X m_law 917 [a0, a1, a2, a3] (vI x :: vX 0 :: st) mem = evb X (sget X x) m_law 918 [a0, a1, a2, a3] st mem := ke_saload dL_law_917
theorem eL_law_918 : ev X m_law 918 [a0, a1, a2, a3] (vI n1 :: vI n0 :: vR r :: []) mem = evc X (gR mem r 4 (ev X m_X4_cost 0 [vR r, vI n0, vI n1, vS] [] mem)) m_law 921 [a0, a1, a2, a3] [] := ke_callV (m' := m_X4_cost) (as := [vI n0, vI n1]) (n := 2) (rest := []) dL_law_918 rfl rfl rfl rfl rfl rfl (Nat.le_of_ble_eq_true rfl) (Nat.le_of_ble_eq_true rfl) (Nat.le_of_ble_eq_true rfl) rfl
theorem eL_law_921 : ev X m_law 921 [a0, a1, vR r, a3] st mem = ev X m_law 922 [a0, a1, vR r, a3] (vR r :: st) mem := ke_aload_n rfl dL_law_921
theorem eL_law_921x : ev X m_law 921 [a0, a1, vX r, a3] st mem = ev X m_law 922 [a0, a1, vX r, a3] (vX r :: st) mem := ke_xload_n rfl dL_law_921
theorem eL_law_922 : ev X m_law 922 [vR r, a1, a2, a3] st mem = ev X m_law 923 [vR r, a1, a2, a3] (vR r :: st) mem := ke_aload_n rfl dL_law_922
theorem eL_law_922x : ev X m_law 922 [vX r, a1, a2, a3] st mem = ev X m_law 923 [vX r, a1, a2, a3] (vX r :: st) mem := ke_xload_n rfl dL_law_922
theorem eL_law_923 : ev X m_law 923 [a0, a1, a2, vI x] st mem = ev X m_law 924 [a0, a1, a2, vI x] (vI x :: st) mem := ke_iload_n rfl dL_law_923
theorem eL_law_924 : ev X m_law 924 [a0, a1, a2, a3] st mem = ev X m_law 925 [a0, a1, a2, a3] (vI 1 :: st) mem := ke_iconst (by decide) dL_law_924
theorem eL_law_925 : ev X m_law 925 [a0, a1, a2, a3] (vI y :: vI x :: st) mem = ev X m_law 926 [a0, a1, a2, a3] (vI (w32 (x + y)) :: st) mem := ke_iadd dL_law_925
theorem eL_law_926 : ev X m_law 926 [a0, a1, a2, a3] (vI x :: vX 0 :: st) mem = evb X (sget X x) m_law 927 [a0, a1, a2, a3] st mem := ke_saload dL_law_926
theorem eL_law_927 : ev X m_law 927 [vR r, a1, a2, a3] st mem = ev X m_law 928 [vR r, a1, a2, a3] (vR r :: st) mem := ke_aload_n rfl dL_law_927
theorem eL_law_927x : ev X m_law 927 [vX r, a1, a2, a3] st mem = ev X m_law 928 [vX r, a1, a2, a3] (vX r :: st) mem := ke_xload_n rfl dL_law_927
theorem eL_law_928 : ev X m_law 928 [a0, a1, a2, vI x] st mem = ev X m_law 929 [a0, a1, a2, vI x] (vI x :: st) mem := ke_iload_n rfl dL_law_928
theorem eL_law_929 : ev X m_law 929 [a0, a1, a2, a3] st mem = ev X m_law 930 [a0, a1, a2, a3] (vI 2 :: st) mem := ke_iconst (by decide) dL_law_929
theorem eL_law_930 : ev X m_law 930 [a0, a1, a2, a3] (vI y :: vI x :: st) mem = ev X m_law 931 [a0, a1, a2, a3] (vI (w32 (x + y)) :: st) mem := ke_iadd dL_law_930
theorem eL_law_931 : ev X m_law 931 [a0, a1, a2, a3] (vI x :: vX 0 :: st) mem = evb X (sget X x) m_law 932 [a0, a1, a2, a3] st mem := ke_saload dL_law_931
theorem eL_law_932 : ev X m_law 932 [a0, a1, a2, a3] (vI n1 :: vI n0 :: vR r :: [s0]) mem = evc X (gR mem r 5 (ev X m_X5_cost 0 [vR r, vI n0, vI n1, vS, vS, vS, vS] [] mem)) m_law 935 [a0, a1, a2, a3] [s0] := ke_callV (m' := m_X5_cost) (as := [vI n0, vI n1]) (n := 2) (rest := [s0]) dL_law_932 rfl rfl rfl rfl rfl rfl (Nat.le_of_ble_eq_true rfl) (Nat.le_of_ble_eq_true rfl) (Nat.le_of_ble_eq_true rfl) rfl
theorem eL_law_935 : ev X m_law 935 [a0, a1, a2, a3] (vI y :: vI x :: st) mem = if x = y then ev X m_law 1370 [a0, a1, a2, a3] st mem else ev X m_law 938 [a0, a1, a2, a3] st mem := ke_icmp_eq dL_law_935 rfl
theorem eL_law_938 : ev X m_law 938 [a0, a1, a2, a3] st mem = ev X m_law 939 [a0, a1, a2, a3] (vI 0 :: st) mem := ke_iconst (by decide) dL_law_938
theorem eL_law_939a : ev X m_law 939 [a0, a1, a2, a3] [vI 1] mem = some (some (vI 1), mem) := ke_zreturn dL_law_939 rfl rfl
theorem eL_law_939b : ev X m_law 939 [a0, a1, a2, a3] [vI 0] mem = some (some (vI 0), mem) := ke_zreturn dL_law_939 rfl rfl
theorem eL_law_939c {c : Prop} [Decidable c] : ev X m_law 939 [a0, a1, a2, a3] [vI (if c then 1 else 0)] mem = some (some (vI (if c then 1 else 0)), mem) := ke_zreturn dL_law_939 rfl (by split <;> rfl)
theorem eL_law_940 : ev X m_law 940 [a0, vR r, a2, a3] st mem = ev X m_law 941 [a0, vR r, a2, a3] (vR r :: st) mem := ke_aload_n rfl dL_law_940
theorem eL_law_940x : ev X m_law 940 [a0, vX r, a2, a3] st mem = ev X m_law 941 [a0, vX r, a2, a3] (vX r :: st) mem := ke_xload_n rfl dL_law_940
theorem eL_law_941 : ev X m_law 941 [vR r, a1, a2, a3] st mem = ev X m_law 942 [vR r, a1, a2, a3] (vR r :: st) mem := ke_aload_n rfl dL_law_941
theorem eL_law_941x : ev X m_law 941 [vX r, a1, a2, a3] st mem = ev X m_law 942 [vX r, a1, a2, a3] (vX r :: st) mem := ke_xload_n rfl dL_law_941
theorem eL_law_942 : ev X m_law 942 [a0, a1, a2, vI x] st mem = ev X m_law 943 [a0, a1, a2, vI x] (vI x :: st) mem := ke_iload_n rfl dL_law_942
theorem eL_law_943 : ev X m_law 943 [a0, a1, a2, a3] st mem = ev X m_law 944 [a0, a1, a2, a3] (vI 1 :: st) mem := ke_iconst (by decide) dL_law_943
theorem eL_law_944 : ev X m_law 944 [a0, a1, a2, a3] (vI y :: vI x :: st) mem = ev X m_law 945 [a0, a1, a2, a3] (vI (w32 (x + y)) :: st) mem := ke_iadd dL_law_944
theorem eL_law_945 : ev X m_law 945 [a0, a1, a2, a3] (vI x :: vX 0 :: st) mem = evb X (sget X x) m_law 946 [a0, a1, a2, a3] st mem := ke_saload dL_law_945
theorem eL_law_946 : ev X m_law 946 [a0, a1, a2, a3] (vI n0 :: vR r :: []) mem = evc X (gR mem r 4 (ev X m_X4_makeUp 0 [vR r, vI n0, vS] [] mem)) m_law 949 [a0, a1, a2, a3] [] := ke_callV (m' := m_X4_makeUp) (as := [vI n0]) (n := 1) (rest := []) dL_law_946 rfl rfl rfl rfl rfl rfl (Nat.le_of_ble_eq_true rfl) (Nat.le_of_ble_eq_true rfl) (Nat.le_of_ble_eq_true rfl) rfl
theorem eL_law_949 : ev X m_law 949 [a0, a1, vR r, a3] st mem = ev X m_law 950 [a0, a1, vR r, a3] (vR r :: st) mem := ke_aload_n rfl dL_law_949
theorem eL_law_949x : ev X m_law 949 [a0, a1, vX r, a3] st mem = ev X m_law 950 [a0, a1, vX r, a3] (vX r :: st) mem := ke_xload_n rfl dL_law_949
theorem eL_law_950 : ev X m_law 950 [vR r, a1, a2, a3] st mem = ev X m_law 951 [vR r, a1, a2, a3] (vR r :: st) mem := ke_aload_n rfl dL_law_950
theorem eL_law_950x : ev X m_law 950 [vX r, a1, a2, a3] st mem = ev X m_law 951 [vX r, a1, a2, a3] (vX r :: st) mem := ke_xload_n rfl dL_law_950
theorem eL_law_951 : ev X m_law 951 [a0, a1, a2, vI x] st mem = ev X m_law 952 [a0, a1, a2, vI x] (vI x :: st) mem := ke_iload_n rfl dL_law_951
theorem eL_law_952 : ev X m_law 952 [a0, a1, a2, a3] st mem = ev X m_law 953 [a0, a1, a2, a3] (vI 1 :: st) mem := ke_iconst (by decide) dL_law_952
theorem eL_law_953 : ev X m_law 953 [a0, a1, a2, a3] (vI y :: vI x :: st) mem = ev X m_law 954 [a0, a1, a2, a3] (vI (w32 (x + y)) :: st) mem := ke_iadd dL_law_953
theorem eL_law_954 : ev X m_law 954 [a0, a1, a2, a3] (vI x :: vX 0 :: st) mem = evb X (sget X x) m_law 955 [a0, a1, a2, a3] st mem := ke_saload dL_law_954
theorem eL_law_955 : ev X m_law 955 [a0, a1, a2, a3] (vI n0 :: vR r :: [s0]) mem = evc X (gR mem r 5 (ev X m_X5_makeUp 0 [vR r, vI n0, vS, vS, vS, vS, vS] [] mem)) m_law 958 [a0, a1, a2, a3] [s0] := ke_callV (m' := m_X5_makeUp) (as := [vI n0]) (n := 1) (rest := [s0]) dL_law_955 rfl rfl rfl rfl rfl rfl (Nat.le_of_ble_eq_true rfl) (Nat.le_of_ble_eq_true rfl) (Nat.le_of_ble_eq_true rfl) rfl
theorem eL_law_958 : ev X m_law 958 [a0, a1, a2, a3] (vI y :: vI x :: st) mem = if x = y then ev X m_law 1370 [a0, a1, a2, a3] st mem else ev X m_law 961 [a0, a1, a2, a3] st mem := ke_icmp_eq dL_law_958 rfl
theorem eL_law_961 : ev X m_law 961 [a0, a1, a2, a3] st mem = ev X m_law 962 [a0, a1, a2, a3] (vI 0 :: st) mem := ke_iconst (by decide) dL_law_961
theorem eL_law_962a : ev X m_law 962 [a0, a1, a2, a3] [vI 1] mem = some (some (vI 1), mem) := ke_zreturn dL_law_962 rfl rfl
theorem eL_law_962b : ev X m_law 962 [a0, a1, a2, a3] [vI 0] mem = some (some (vI 0), mem) := ke_zreturn dL_law_962 rfl rfl
theorem eL_law_962c {c : Prop} [Decidable c] : ev X m_law 962 [a0, a1, a2, a3] [vI (if c then 1 else 0)] mem = some (some (vI (if c then 1 else 0)), mem) := ke_zreturn dL_law_962 rfl (by split <;> rfl)
theorem eL_law_963 : ev X m_law 963 [a0, vR r, a2, a3] st mem = ev X m_law 964 [a0, vR r, a2, a3] (vR r :: st) mem := ke_aload_n rfl dL_law_963
theorem eL_law_963x : ev X m_law 963 [a0, vX r, a2, a3] st mem = ev X m_law 964 [a0, vX r, a2, a3] (vX r :: st) mem := ke_xload_n rfl dL_law_963
theorem eL_law_964 : ev X m_law 964 [vR r, a1, a2, a3] st mem = ev X m_law 965 [vR r, a1, a2, a3] (vR r :: st) mem := ke_aload_n rfl dL_law_964
theorem eL_law_964x : ev X m_law 964 [vX r, a1, a2, a3] st mem = ev X m_law 965 [vX r, a1, a2, a3] (vX r :: st) mem := ke_xload_n rfl dL_law_964
theorem eL_law_965 : ev X m_law 965 [a0, a1, a2, vI x] st mem = ev X m_law 966 [a0, a1, a2, vI x] (vI x :: st) mem := ke_iload_n rfl dL_law_965
theorem eL_law_966 : ev X m_law 966 [a0, a1, a2, a3] st mem = ev X m_law 967 [a0, a1, a2, a3] (vI 1 :: st) mem := ke_iconst (by decide) dL_law_966
theorem eL_law_967 : ev X m_law 967 [a0, a1, a2, a3] (vI y :: vI x :: st) mem = ev X m_law 968 [a0, a1, a2, a3] (vI (w32 (x + y)) :: st) mem := ke_iadd dL_law_967
theorem eL_law_968 : ev X m_law 968 [a0, a1, a2, a3] (vI x :: vX 0 :: st) mem = evb X (sget X x) m_law 969 [a0, a1, a2, a3] st mem := ke_saload dL_law_968
theorem eL_law_969 : ev X m_law 969 [vR r, a1, a2, a3] st mem = ev X m_law 970 [vR r, a1, a2, a3] (vR r :: st) mem := ke_aload_n rfl dL_law_969
theorem eL_law_969x : ev X m_law 969 [vX r, a1, a2, a3] st mem = ev X m_law 970 [vX r, a1, a2, a3] (vX r :: st) mem := ke_xload_n rfl dL_law_969
theorem eL_law_970 : ev X m_law 970 [a0, a1, a2, vI x] st mem = ev X m_law 971 [a0, a1, a2, vI x] (vI x :: st) mem := ke_iload_n rfl dL_law_970
theorem eL_law_971 : ev X m_law 971 [a0, a1, a2, a3] st mem = ev X m_law 972 [a0, a1, a2, a3] (vI 2 :: st) mem := ke_iconst (by decide) dL_law_971
theorem eL_law_972 : ev X m_law 972 [a0, a1, a2, a3] (vI y :: vI x :: st) mem = ev X m_law 973 [a0, a1, a2, a3] (vI (w32 (x + y)) :: st) mem := ke_iadd dL_law_972
theorem eL_law_973 : ev X m_law 973 [a0, a1, a2, a3] (vI x :: vX 0 :: st) mem = evb X (sget X x) m_law 974 [a0, a1, a2, a3] st mem := ke_saload dL_law_973
theorem eL_law_974 : ev X m_law 974 [a0, a1, a2, a3] (vI n1 :: vI n0 :: vR r :: []) mem = evc X (gR mem r 4 (ev X m_X4_post 0 [vR r, vI n0, vI n1] [] mem)) m_law 977 [a0, a1, a2, a3] [] := ke_callV (m' := m_X4_post) (as := [vI n0, vI n1]) (n := 2) (rest := []) dL_law_974 rfl rfl rfl rfl rfl rfl (Nat.le_of_ble_eq_true rfl) (Nat.le_of_ble_eq_true rfl) (Nat.le_of_ble_eq_true rfl) rfl
theorem eL_law_977 : ev X m_law 977 [a0, a1, vR r, a3] st mem = ev X m_law 978 [a0, a1, vR r, a3] (vR r :: st) mem := ke_aload_n rfl dL_law_977
theorem eL_law_977x : ev X m_law 977 [a0, a1, vX r, a3] st mem = ev X m_law 978 [a0, a1, vX r, a3] (vX r :: st) mem := ke_xload_n rfl dL_law_977
theorem eL_law_978 : ev X m_law 978 [vR r, a1, a2, a3] st mem = ev X m_law 979 [vR r, a1, a2, a3] (vR r :: st) mem := ke_aload_n rfl dL_law_978
theorem eL_law_978x : ev X m_law 978 [vX r, a1, a2, a3] st mem = ev X m_law 979 [vX r, a1, a2, a3] (vX r :: st) mem := ke_xload_n rfl dL_law_978
theorem eL_law_979 : ev X m_law 979 [a0, a1, a2, vI x] st mem = ev X m_law 980 [a0, a1, a2, vI x] (vI x :: st) mem := ke_iload_n rfl dL_law_979
theorem eL_law_980 : ev X m_law 980 [a0, a1, a2, a3] st mem = ev X m_law 981 [a0, a1, a2, a3] (vI 1 :: st) mem := ke_iconst (by decide) dL_law_980
theorem eL_law_981 : ev X m_law 981 [a0, a1, a2, a3] (vI y :: vI x :: st) mem = ev X m_law 982 [a0, a1, a2, a3] (vI (w32 (x + y)) :: st) mem := ke_iadd dL_law_981
theorem eL_law_982 : ev X m_law 982 [a0, a1, a2, a3] (vI x :: vX 0 :: st) mem = evb X (sget X x) m_law 983 [a0, a1, a2, a3] st mem := ke_saload dL_law_982
theorem eL_law_983 : ev X m_law 983 [vR r, a1, a2, a3] st mem = ev X m_law 984 [vR r, a1, a2, a3] (vR r :: st) mem := ke_aload_n rfl dL_law_983
theorem eL_law_983x : ev X m_law 983 [vX r, a1, a2, a3] st mem = ev X m_law 984 [vX r, a1, a2, a3] (vX r :: st) mem := ke_xload_n rfl dL_law_983
theorem eL_law_984 : ev X m_law 984 [a0, a1, a2, vI x] st mem = ev X m_law 985 [a0, a1, a2, vI x] (vI x :: st) mem := ke_iload_n rfl dL_law_984
theorem eL_law_985 : ev X m_law 985 [a0, a1, a2, a3] st mem = ev X m_law 986 [a0, a1, a2, a3] (vI 2 :: st) mem := ke_iconst (by decide) dL_law_985
theorem eL_law_986 : ev X m_law 986 [a0, a1, a2, a3] (vI y :: vI x :: st) mem = ev X m_law 987 [a0, a1, a2, a3] (vI (w32 (x + y)) :: st) mem := ke_iadd dL_law_986
theorem eL_law_987 : ev X m_law 987 [a0, a1, a2, a3] (vI x :: vX 0 :: st) mem = evb X (sget X x) m_law 988 [a0, a1, a2, a3] st mem := ke_saload dL_law_987
theorem eL_law_988 : ev X m_law 988 [a0, a1, a2, a3] (vI n1 :: vI n0 :: vR r :: [s0]) mem = evc X (gR mem r 5 (ev X m_X5_post 0 [vR r, vI n0, vI n1, vS, vS, vS, vS, vS] [] mem)) m_law 991 [a0, a1, a2, a3] [s0] := ke_callV (m' := m_X5_post) (as := [vI n0, vI n1]) (n := 2) (rest := [s0]) dL_law_988 rfl rfl rfl rfl rfl rfl (Nat.le_of_ble_eq_true rfl) (Nat.le_of_ble_eq_true rfl) (Nat.le_of_ble_eq_true rfl) rfl
theorem eL_law_991 : ev X m_law 991 [a0, a1, a2, a3] (vI y :: vI x :: st) mem = if x = y then ev X m_law 1370 [a0, a1, a2, a3] st mem else ev X m_law 994 [a0, a1, a2, a3] st mem := ke_icmp_eq dL_law_991 rfl
theorem eL_law_994 : ev X m_law 994 [a0, a1, a2, a3] st mem = ev X m_law 995 [a0, a1, a2, a3] (vI 0 :: st) mem := ke_iconst (by decide) dL_law_994
theorem eL_law_995a : ev X m_law 995 [a0, a1, a2, a3] [vI 1] mem = some (some (vI 1), mem) := ke_zreturn dL_law_995 rfl rfl
theorem eL_law_995b : ev X m_law 995 [a0, a1, a2, a3] [vI 0] mem = some (some (vI 0), mem) := ke_zreturn dL_law_995 rfl rfl
theorem eL_law_995c {c : Prop} [Decidable c] : ev X m_law 995 [a0, a1, a2, a3] [vI (if c then 1 else 0)] mem = some (some (vI (if c then 1 else 0)), mem) := ke_zreturn dL_law_995 rfl (by split <;> rfl)
theorem eL_law_996 : ev X m_law 996 [a0, vR r, a2, a3] st mem = ev X m_law 997 [a0, vR r, a2, a3] (vR r :: st) mem := ke_aload_n rfl dL_law_996
theorem eL_law_996x : ev X m_law 996 [a0, vX r, a2, a3] st mem = ev X m_law 997 [a0, vX r, a2, a3] (vX r :: st) mem := ke_xload_n rfl dL_law_996
theorem eL_law_997 : ev X m_law 997 [vR r, a1, a2, a3] st mem = ev X m_law 998 [vR r, a1, a2, a3] (vR r :: st) mem := ke_aload_n rfl dL_law_997
theorem eL_law_997x : ev X m_law 997 [vX r, a1, a2, a3] st mem = ev X m_law 998 [vX r, a1, a2, a3] (vX r :: st) mem := ke_xload_n rfl dL_law_997
theorem eL_law_998 : ev X m_law 998 [a0, a1, a2, vI x] st mem = ev X m_law 999 [a0, a1, a2, vI x] (vI x :: st) mem := ke_iload_n rfl dL_law_998
theorem eL_law_999 : ev X m_law 999 [a0, a1, a2, a3] st mem = ev X m_law 1000 [a0, a1, a2, a3] (vI 1 :: st) mem := ke_iconst (by decide) dL_law_999
theorem eL_law_1000 : ev X m_law 1000 [a0, a1, a2, a3] (vI y :: vI x :: st) mem = ev X m_law 1001 [a0, a1, a2, a3] (vI (w32 (x + y)) :: st) mem := ke_iadd dL_law_1000
theorem eL_law_1001 : ev X m_law 1001 [a0, a1, a2, a3] (vI x :: vX 0 :: st) mem = evb X (sget X x) m_law 1002 [a0, a1, a2, a3] st mem := ke_saload dL_law_1001
theorem eL_law_1002 : ev X m_law 1002 [vR r, a1, a2, a3] st mem = ev X m_law 1003 [vR r, a1, a2, a3] (vR r :: st) mem := ke_aload_n rfl dL_law_1002
theorem eL_law_1002x : ev X m_law 1002 [vX r, a1, a2, a3] st mem = ev X m_law 1003 [vX r, a1, a2, a3] (vX r :: st) mem := ke_xload_n rfl dL_law_1002
theorem eL_law_1003 : ev X m_law 1003 [a0, a1, a2, vI x] st mem = ev X m_law 1004 [a0, a1, a2, vI x] (vI x :: st) mem := ke_iload_n rfl dL_law_1003
theorem eL_law_1004 : ev X m_law 1004 [a0, a1, a2, a3] st mem = ev X m_law 1005 [a0, a1, a2, a3] (vI 2 :: st) mem := ke_iconst (by decide) dL_law_1004
theorem eL_law_1005 : ev X m_law 1005 [a0, a1, a2, a3] (vI y :: vI x :: st) mem = ev X m_law 1006 [a0, a1, a2, a3] (vI (w32 (x + y)) :: st) mem := ke_iadd dL_law_1005
theorem eL_law_1006 : ev X m_law 1006 [a0, a1, a2, a3] (vI x :: vX 0 :: st) mem = evb X (sget X x) m_law 1007 [a0, a1, a2, a3] st mem := ke_saload dL_law_1006
theorem eL_law_1007 : ev X m_law 1007 [a0, a1, a2, a3] (vI n1 :: vI n0 :: vR r :: []) mem = evc X (gR mem r 4 (ev X m_X4_road 0 [vR r, vI n0, vI n1] [] mem)) m_law 1010 [a0, a1, a2, a3] [] := ke_callV (m' := m_X4_road) (as := [vI n0, vI n1]) (n := 2) (rest := []) dL_law_1007 rfl rfl rfl rfl rfl rfl (Nat.le_of_ble_eq_true rfl) (Nat.le_of_ble_eq_true rfl) (Nat.le_of_ble_eq_true rfl) rfl
theorem eL_law_1010 : ev X m_law 1010 [a0, a1, vR r, a3] st mem = ev X m_law 1011 [a0, a1, vR r, a3] (vR r :: st) mem := ke_aload_n rfl dL_law_1010
theorem eL_law_1010x : ev X m_law 1010 [a0, a1, vX r, a3] st mem = ev X m_law 1011 [a0, a1, vX r, a3] (vX r :: st) mem := ke_xload_n rfl dL_law_1010
theorem eL_law_1011 : ev X m_law 1011 [vR r, a1, a2, a3] st mem = ev X m_law 1012 [vR r, a1, a2, a3] (vR r :: st) mem := ke_aload_n rfl dL_law_1011
theorem eL_law_1011x : ev X m_law 1011 [vX r, a1, a2, a3] st mem = ev X m_law 1012 [vX r, a1, a2, a3] (vX r :: st) mem := ke_xload_n rfl dL_law_1011
theorem eL_law_1012 : ev X m_law 1012 [a0, a1, a2, vI x] st mem = ev X m_law 1013 [a0, a1, a2, vI x] (vI x :: st) mem := ke_iload_n rfl dL_law_1012
theorem eL_law_1013 : ev X m_law 1013 [a0, a1, a2, a3] st mem = ev X m_law 1014 [a0, a1, a2, a3] (vI 1 :: st) mem := ke_iconst (by decide) dL_law_1013
theorem eL_law_1014 : ev X m_law 1014 [a0, a1, a2, a3] (vI y :: vI x :: st) mem = ev X m_law 1015 [a0, a1, a2, a3] (vI (w32 (x + y)) :: st) mem := ke_iadd dL_law_1014
theorem eL_law_1015 : ev X m_law 1015 [a0, a1, a2, a3] (vI x :: vX 0 :: st) mem = evb X (sget X x) m_law 1016 [a0, a1, a2, a3] st mem := ke_saload dL_law_1015
theorem eL_law_1016 : ev X m_law 1016 [vR r, a1, a2, a3] st mem = ev X m_law 1017 [vR r, a1, a2, a3] (vR r :: st) mem := ke_aload_n rfl dL_law_1016
theorem eL_law_1016x : ev X m_law 1016 [vX r, a1, a2, a3] st mem = ev X m_law 1017 [vX r, a1, a2, a3] (vX r :: st) mem := ke_xload_n rfl dL_law_1016
theorem eL_law_1017 : ev X m_law 1017 [a0, a1, a2, vI x] st mem = ev X m_law 1018 [a0, a1, a2, vI x] (vI x :: st) mem := ke_iload_n rfl dL_law_1017
theorem eL_law_1018 : ev X m_law 1018 [a0, a1, a2, a3] st mem = ev X m_law 1019 [a0, a1, a2, a3] (vI 2 :: st) mem := ke_iconst (by decide) dL_law_1018
theorem eL_law_1019 : ev X m_law 1019 [a0, a1, a2, a3] (vI y :: vI x :: st) mem = ev X m_law 1020 [a0, a1, a2, a3] (vI (w32 (x + y)) :: st) mem := ke_iadd dL_law_1019
theorem eL_law_1020 : ev X m_law 1020 [a0, a1, a2, a3] (vI x :: vX 0 :: st) mem = evb X (sget X x) m_law 1021 [a0, a1, a2, a3] st mem := ke_saload dL_law_1020
theorem eL_law_1021 : ev X m_law 1021 [a0, a1, a2, a3] (vI n1 :: vI n0 :: vR r :: [s0]) mem = evc X (gR mem r 5 (ev X m_X5_road 0 [vR r, vI n0, vI n1] [] mem)) m_law 1024 [a0, a1, a2, a3] [s0] := ke_callV (m' := m_X5_road) (as := [vI n0, vI n1]) (n := 2) (rest := [s0]) dL_law_1021 rfl rfl rfl rfl rfl rfl (Nat.le_of_ble_eq_true rfl) (Nat.le_of_ble_eq_true rfl) (Nat.le_of_ble_eq_true rfl) rfl
theorem eL_law_1024 : ev X m_law 1024 [a0, a1, a2, a3] (vI y :: vI x :: st) mem = if x = y then ev X m_law 1370 [a0, a1, a2, a3] st mem else ev X m_law 1027 [a0, a1, a2, a3] st mem := ke_icmp_eq dL_law_1024 rfl
theorem eL_law_1027 : ev X m_law 1027 [a0, a1, a2, a3] st mem = ev X m_law 1028 [a0, a1, a2, a3] (vI 0 :: st) mem := ke_iconst (by decide) dL_law_1027
theorem eL_law_1028a : ev X m_law 1028 [a0, a1, a2, a3] [vI 1] mem = some (some (vI 1), mem) := ke_zreturn dL_law_1028 rfl rfl
theorem eL_law_1028b : ev X m_law 1028 [a0, a1, a2, a3] [vI 0] mem = some (some (vI 0), mem) := ke_zreturn dL_law_1028 rfl rfl
theorem eL_law_1028c {c : Prop} [Decidable c] : ev X m_law 1028 [a0, a1, a2, a3] [vI (if c then 1 else 0)] mem = some (some (vI (if c then 1 else 0)), mem) := ke_zreturn dL_law_1028 rfl (by split <;> rfl)
theorem eL_law_1029 : ev X m_law 1029 [a0, vR r, a2, a3] st mem = ev X m_law 1030 [a0, vR r, a2, a3] (vR r :: st) mem := ke_aload_n rfl dL_law_1029
theorem eL_law_1029x : ev X m_law 1029 [a0, vX r, a2, a3] st mem = ev X m_law 1030 [a0, vX r, a2, a3] (vX r :: st) mem := ke_xload_n rfl dL_law_1029
theorem eL_law_1030 : ev X m_law 1030 [a0, a1, a2, a3] (vR r :: []) mem = evc X (gR mem r 4 (ev X m_X4_farthest 0 [vR r, vS, vS, vS, vS, vS] [] mem)) m_law 1033 [a0, a1, a2, a3] [] := ke_callV (m' := m_X4_farthest) (as := []) (n := 0) (rest := []) dL_law_1030 rfl rfl rfl rfl rfl rfl (Nat.le_of_ble_eq_true rfl) (Nat.le_of_ble_eq_true rfl) (Nat.le_of_ble_eq_true rfl) rfl
theorem eL_law_1033 : ev X m_law 1033 [a0, a1, vR r, a3] st mem = ev X m_law 1034 [a0, a1, vR r, a3] (vR r :: st) mem := ke_aload_n rfl dL_law_1033
theorem eL_law_1033x : ev X m_law 1033 [a0, a1, vX r, a3] st mem = ev X m_law 1034 [a0, a1, vX r, a3] (vX r :: st) mem := ke_xload_n rfl dL_law_1033
theorem eL_law_1034 : ev X m_law 1034 [a0, a1, a2, a3] (vR r :: [s0]) mem = evc X (gR mem r 5 (ev X m_X5_farthest 0 [vR r, vS, vS, vS, vS] [] mem)) m_law 1037 [a0, a1, a2, a3] [s0] := ke_callV (m' := m_X5_farthest) (as := []) (n := 0) (rest := [s0]) dL_law_1034 rfl rfl rfl rfl rfl rfl (Nat.le_of_ble_eq_true rfl) (Nat.le_of_ble_eq_true rfl) (Nat.le_of_ble_eq_true rfl) rfl
theorem eL_law_1037 : ev X m_law 1037 [a0, a1, a2, a3] (vI y :: vI x :: st) mem = if x = y then ev X m_law 1370 [a0, a1, a2, a3] st mem else ev X m_law 1040 [a0, a1, a2, a3] st mem := ke_icmp_eq dL_law_1037 rfl
theorem eL_law_1040 : ev X m_law 1040 [a0, a1, a2, a3] st mem = ev X m_law 1041 [a0, a1, a2, a3] (vI 0 :: st) mem := ke_iconst (by decide) dL_law_1040
theorem eL_law_1041a : ev X m_law 1041 [a0, a1, a2, a3] [vI 1] mem = some (some (vI 1), mem) := ke_zreturn dL_law_1041 rfl rfl
theorem eL_law_1041b : ev X m_law 1041 [a0, a1, a2, a3] [vI 0] mem = some (some (vI 0), mem) := ke_zreturn dL_law_1041 rfl rfl
theorem eL_law_1041c {c : Prop} [Decidable c] : ev X m_law 1041 [a0, a1, a2, a3] [vI (if c then 1 else 0)] mem = some (some (vI (if c then 1 else 0)), mem) := ke_zreturn dL_law_1041 rfl (by split <;> rfl)
theorem eL_law_1042 : ev X m_law 1042 [a0, vR r, a2, a3] st mem = ev X m_law 1043 [a0, vR r, a2, a3] (vR r :: st) mem := ke_aload_n rfl dL_law_1042
theorem eL_law_1042x : ev X m_law 1042 [a0, vX r, a2, a3] st mem = ev X m_law 1043 [a0, vX r, a2, a3] (vX r :: st) mem := ke_xload_n rfl dL_law_1042
theorem eL_law_1043 : ev X m_law 1043 [vR r, a1, a2, a3] st mem = ev X m_law 1044 [vR r, a1, a2, a3] (vR r :: st) mem := ke_aload_n rfl dL_law_1043
theorem eL_law_1043x : ev X m_law 1043 [vX r, a1, a2, a3] st mem = ev X m_law 1044 [vX r, a1, a2, a3] (vX r :: st) mem := ke_xload_n rfl dL_law_1043
theorem eL_law_1044 : ev X m_law 1044 [a0, a1, a2, vI x] st mem = ev X m_law 1045 [a0, a1, a2, vI x] (vI x :: st) mem := ke_iload_n rfl dL_law_1044
theorem eL_law_1045 : ev X m_law 1045 [a0, a1, a2, a3] st mem = ev X m_law 1046 [a0, a1, a2, a3] (vI 1 :: st) mem := ke_iconst (by decide) dL_law_1045
theorem eL_law_1046 : ev X m_law 1046 [a0, a1, a2, a3] (vI y :: vI x :: st) mem = ev X m_law 1047 [a0, a1, a2, a3] (vI (w32 (x + y)) :: st) mem := ke_iadd dL_law_1046
theorem eL_law_1047 : ev X m_law 1047 [a0, a1, a2, a3] (vI x :: vX 0 :: st) mem = evb X (sget X x) m_law 1048 [a0, a1, a2, a3] st mem := ke_saload dL_law_1047
theorem eL_law_1048 : ev X m_law 1048 [a0, a1, a2, a3] (vI n0 :: vR r :: []) mem = evc X (gR mem r 4 (ev X m_X4_fair 0 [vR r, vI n0, vS, vS, vS, vS] [] mem)) m_law 1051 [a0, a1, a2, a3] [] := ke_callV (m' := m_X4_fair) (as := [vI n0]) (n := 1) (rest := []) dL_law_1048 rfl rfl rfl rfl rfl rfl (Nat.le_of_ble_eq_true rfl) (Nat.le_of_ble_eq_true rfl) (Nat.le_of_ble_eq_true rfl) rfl
theorem eL_law_1051 : ev X m_law 1051 [a0, a1, vR r, a3] st mem = ev X m_law 1052 [a0, a1, vR r, a3] (vR r :: st) mem := ke_aload_n rfl dL_law_1051
theorem eL_law_1051x : ev X m_law 1051 [a0, a1, vX r, a3] st mem = ev X m_law 1052 [a0, a1, vX r, a3] (vX r :: st) mem := ke_xload_n rfl dL_law_1051
theorem eL_law_1052 : ev X m_law 1052 [vR r, a1, a2, a3] st mem = ev X m_law 1053 [vR r, a1, a2, a3] (vR r :: st) mem := ke_aload_n rfl dL_law_1052
theorem eL_law_1052x : ev X m_law 1052 [vX r, a1, a2, a3] st mem = ev X m_law 1053 [vX r, a1, a2, a3] (vX r :: st) mem := ke_xload_n rfl dL_law_1052
theorem eL_law_1053 : ev X m_law 1053 [a0, a1, a2, vI x] st mem = ev X m_law 1054 [a0, a1, a2, vI x] (vI x :: st) mem := ke_iload_n rfl dL_law_1053
theorem eL_law_1054 : ev X m_law 1054 [a0, a1, a2, a3] st mem = ev X m_law 1055 [a0, a1, a2, a3] (vI 1 :: st) mem := ke_iconst (by decide) dL_law_1054
theorem eL_law_1055 : ev X m_law 1055 [a0, a1, a2, a3] (vI y :: vI x :: st) mem = ev X m_law 1056 [a0, a1, a2, a3] (vI (w32 (x + y)) :: st) mem := ke_iadd dL_law_1055
theorem eL_law_1056 : ev X m_law 1056 [a0, a1, a2, a3] (vI x :: vX 0 :: st) mem = evb X (sget X x) m_law 1057 [a0, a1, a2, a3] st mem := ke_saload dL_law_1056
theorem eL_law_1057 : ev X m_law 1057 [a0, a1, a2, a3] (vI n0 :: vR r :: [s0]) mem = evc X (gR mem r 5 (ev X m_X5_fair 0 [vR r, vI n0, vS, vS, vS] [] mem)) m_law 1060 [a0, a1, a2, a3] [s0] := ke_callV (m' := m_X5_fair) (as := [vI n0]) (n := 1) (rest := [s0]) dL_law_1057 rfl rfl rfl rfl rfl rfl (Nat.le_of_ble_eq_true rfl) (Nat.le_of_ble_eq_true rfl) (Nat.le_of_ble_eq_true rfl) rfl
theorem eL_law_1060 : ev X m_law 1060 [a0, a1, a2, a3] (vI y :: vI x :: st) mem = if x = y then ev X m_law 1370 [a0, a1, a2, a3] st mem else ev X m_law 1063 [a0, a1, a2, a3] st mem := ke_icmp_eq dL_law_1060 rfl
theorem eL_law_1063 : ev X m_law 1063 [a0, a1, a2, a3] st mem = ev X m_law 1064 [a0, a1, a2, a3] (vI 0 :: st) mem := ke_iconst (by decide) dL_law_1063
theorem eL_law_1064a : ev X m_law 1064 [a0, a1, a2, a3] [vI 1] mem = some (some (vI 1), mem) := ke_zreturn dL_law_1064 rfl rfl
theorem eL_law_1064b : ev X m_law 1064 [a0, a1, a2, a3] [vI 0] mem = some (some (vI 0), mem) := ke_zreturn dL_law_1064 rfl rfl
theorem eL_law_1064c {c : Prop} [Decidable c] : ev X m_law 1064 [a0, a1, a2, a3] [vI (if c then 1 else 0)] mem = some (some (vI (if c then 1 else 0)), mem) := ke_zreturn dL_law_1064 rfl (by split <;> rfl)
theorem eL_law_1065 : ev X m_law 1065 [a0, vR r, a2, a3] st mem = ev X m_law 1066 [a0, vR r, a2, a3] (vR r :: st) mem := ke_aload_n rfl dL_law_1065
theorem eL_law_1065x : ev X m_law 1065 [a0, vX r, a2, a3] st mem = ev X m_law 1066 [a0, vX r, a2, a3] (vX r :: st) mem := ke_xload_n rfl dL_law_1065
theorem eL_law_1066 : ev X m_law 1066 [vR r, a1, a2, a3] st mem = ev X m_law 1067 [vR r, a1, a2, a3] (vR r :: st) mem := ke_aload_n rfl dL_law_1066
theorem eL_law_1066x : ev X m_law 1066 [vX r, a1, a2, a3] st mem = ev X m_law 1067 [vX r, a1, a2, a3] (vX r :: st) mem := ke_xload_n rfl dL_law_1066
theorem eL_law_1067 : ev X m_law 1067 [a0, a1, a2, vI x] st mem = ev X m_law 1068 [a0, a1, a2, vI x] (vI x :: st) mem := ke_iload_n rfl dL_law_1067
theorem eL_law_1068 : ev X m_law 1068 [a0, a1, a2, a3] st mem = ev X m_law 1069 [a0, a1, a2, a3] (vI 1 :: st) mem := ke_iconst (by decide) dL_law_1068
theorem eL_law_1069 : ev X m_law 1069 [a0, a1, a2, a3] (vI y :: vI x :: st) mem = ev X m_law 1070 [a0, a1, a2, a3] (vI (w32 (x + y)) :: st) mem := ke_iadd dL_law_1069
theorem eL_law_1070 : ev X m_law 1070 [a0, a1, a2, a3] (vI x :: vX 0 :: st) mem = evb X (sget X x) m_law 1071 [a0, a1, a2, a3] st mem := ke_saload dL_law_1070
theorem eL_law_1071 : ev X m_law 1071 [vR r, a1, a2, a3] st mem = ev X m_law 1072 [vR r, a1, a2, a3] (vR r :: st) mem := ke_aload_n rfl dL_law_1071
theorem eL_law_1071x : ev X m_law 1071 [vX r, a1, a2, a3] st mem = ev X m_law 1072 [vX r, a1, a2, a3] (vX r :: st) mem := ke_xload_n rfl dL_law_1071
theorem eL_law_1072 : ev X m_law 1072 [a0, a1, a2, vI x] st mem = ev X m_law 1073 [a0, a1, a2, vI x] (vI x :: st) mem := ke_iload_n rfl dL_law_1072
theorem eL_law_1073 : ev X m_law 1073 [a0, a1, a2, a3] st mem = ev X m_law 1074 [a0, a1, a2, a3] (vI 2 :: st) mem := ke_iconst (by decide) dL_law_1073
theorem eL_law_1074 : ev X m_law 1074 [a0, a1, a2, a3] (vI y :: vI x :: st) mem = ev X m_law 1075 [a0, a1, a2, a3] (vI (w32 (x + y)) :: st) mem := ke_iadd dL_law_1074
theorem eL_law_1075 : ev X m_law 1075 [a0, a1, a2, a3] (vI x :: vX 0 :: st) mem = evb X (sget X x) m_law 1076 [a0, a1, a2, a3] st mem := ke_saload dL_law_1075
theorem eL_law_1076 : ev X m_law 1076 [vR r, a1, a2, a3] st mem = ev X m_law 1077 [vR r, a1, a2, a3] (vR r :: st) mem := ke_aload_n rfl dL_law_1076
theorem eL_law_1076x : ev X m_law 1076 [vX r, a1, a2, a3] st mem = ev X m_law 1077 [vX r, a1, a2, a3] (vX r :: st) mem := ke_xload_n rfl dL_law_1076
theorem eL_law_1077 : ev X m_law 1077 [a0, a1, a2, vI x] st mem = ev X m_law 1078 [a0, a1, a2, vI x] (vI x :: st) mem := ke_iload_n rfl dL_law_1077
theorem eL_law_1078 : ev X m_law 1078 [a0, a1, a2, a3] st mem = ev X m_law 1079 [a0, a1, a2, a3] (vI 3 :: st) mem := ke_iconst (by decide) dL_law_1078
theorem eL_law_1079 : ev X m_law 1079 [a0, a1, a2, a3] (vI y :: vI x :: st) mem = ev X m_law 1080 [a0, a1, a2, a3] (vI (w32 (x + y)) :: st) mem := ke_iadd dL_law_1079
theorem eL_law_1080 : ev X m_law 1080 [a0, a1, a2, a3] (vI x :: vX 0 :: st) mem = evb X (sget X x) m_law 1081 [a0, a1, a2, a3] st mem := ke_saload dL_law_1080
theorem eL_law_1081 : ev X m_law 1081 [a0, a1, a2, a3] (vI n2 :: vI n1 :: vI n0 :: vR r :: []) mem = evc X (gR mem r 4 (ev X m_X4_two 0 [vR r, vI n0, vI n1, vI n2] [] mem)) m_law 1084 [a0, a1, a2, a3] [] := ke_callV (m' := m_X4_two) (as := [vI n0, vI n1, vI n2]) (n := 3) (rest := []) dL_law_1081 rfl rfl rfl rfl rfl rfl (Nat.le_of_ble_eq_true rfl) (Nat.le_of_ble_eq_true rfl) (Nat.le_of_ble_eq_true rfl) rfl
theorem eL_law_1084 : ev X m_law 1084 [a0, a1, vR r, a3] st mem = ev X m_law 1085 [a0, a1, vR r, a3] (vR r :: st) mem := ke_aload_n rfl dL_law_1084
theorem eL_law_1084x : ev X m_law 1084 [a0, a1, vX r, a3] st mem = ev X m_law 1085 [a0, a1, vX r, a3] (vX r :: st) mem := ke_xload_n rfl dL_law_1084
theorem eL_law_1085 : ev X m_law 1085 [vR r, a1, a2, a3] st mem = ev X m_law 1086 [vR r, a1, a2, a3] (vR r :: st) mem := ke_aload_n rfl dL_law_1085
theorem eL_law_1085x : ev X m_law 1085 [vX r, a1, a2, a3] st mem = ev X m_law 1086 [vX r, a1, a2, a3] (vX r :: st) mem := ke_xload_n rfl dL_law_1085
theorem eL_law_1086 : ev X m_law 1086 [a0, a1, a2, vI x] st mem = ev X m_law 1087 [a0, a1, a2, vI x] (vI x :: st) mem := ke_iload_n rfl dL_law_1086
theorem eL_law_1087 : ev X m_law 1087 [a0, a1, a2, a3] st mem = ev X m_law 1088 [a0, a1, a2, a3] (vI 1 :: st) mem := ke_iconst (by decide) dL_law_1087
theorem eL_law_1088 : ev X m_law 1088 [a0, a1, a2, a3] (vI y :: vI x :: st) mem = ev X m_law 1089 [a0, a1, a2, a3] (vI (w32 (x + y)) :: st) mem := ke_iadd dL_law_1088
theorem eL_law_1089 : ev X m_law 1089 [a0, a1, a2, a3] (vI x :: vX 0 :: st) mem = evb X (sget X x) m_law 1090 [a0, a1, a2, a3] st mem := ke_saload dL_law_1089
theorem eL_law_1090 : ev X m_law 1090 [vR r, a1, a2, a3] st mem = ev X m_law 1091 [vR r, a1, a2, a3] (vR r :: st) mem := ke_aload_n rfl dL_law_1090
theorem eL_law_1090x : ev X m_law 1090 [vX r, a1, a2, a3] st mem = ev X m_law 1091 [vX r, a1, a2, a3] (vX r :: st) mem := ke_xload_n rfl dL_law_1090
theorem eL_law_1091 : ev X m_law 1091 [a0, a1, a2, vI x] st mem = ev X m_law 1092 [a0, a1, a2, vI x] (vI x :: st) mem := ke_iload_n rfl dL_law_1091
theorem eL_law_1092 : ev X m_law 1092 [a0, a1, a2, a3] st mem = ev X m_law 1093 [a0, a1, a2, a3] (vI 2 :: st) mem := ke_iconst (by decide) dL_law_1092
theorem eL_law_1093 : ev X m_law 1093 [a0, a1, a2, a3] (vI y :: vI x :: st) mem = ev X m_law 1094 [a0, a1, a2, a3] (vI (w32 (x + y)) :: st) mem := ke_iadd dL_law_1093
theorem eL_law_1094 : ev X m_law 1094 [a0, a1, a2, a3] (vI x :: vX 0 :: st) mem = evb X (sget X x) m_law 1095 [a0, a1, a2, a3] st mem := ke_saload dL_law_1094
theorem eL_law_1095 : ev X m_law 1095 [vR r, a1, a2, a3] st mem = ev X m_law 1096 [vR r, a1, a2, a3] (vR r :: st) mem := ke_aload_n rfl dL_law_1095
theorem eL_law_1095x : ev X m_law 1095 [vX r, a1, a2, a3] st mem = ev X m_law 1096 [vX r, a1, a2, a3] (vX r :: st) mem := ke_xload_n rfl dL_law_1095
theorem eL_law_1096 : ev X m_law 1096 [a0, a1, a2, vI x] st mem = ev X m_law 1097 [a0, a1, a2, vI x] (vI x :: st) mem := ke_iload_n rfl dL_law_1096
theorem eL_law_1097 : ev X m_law 1097 [a0, a1, a2, a3] st mem = ev X m_law 1098 [a0, a1, a2, a3] (vI 3 :: st) mem := ke_iconst (by decide) dL_law_1097
theorem eL_law_1098 : ev X m_law 1098 [a0, a1, a2, a3] (vI y :: vI x :: st) mem = ev X m_law 1099 [a0, a1, a2, a3] (vI (w32 (x + y)) :: st) mem := ke_iadd dL_law_1098
theorem eL_law_1099 : ev X m_law 1099 [a0, a1, a2, a3] (vI x :: vX 0 :: st) mem = evb X (sget X x) m_law 1100 [a0, a1, a2, a3] st mem := ke_saload dL_law_1099
theorem eL_law_1100 : ev X m_law 1100 [a0, a1, a2, a3] (vI n2 :: vI n1 :: vI n0 :: vR r :: [s0]) mem = evc X (gR mem r 5 (ev X m_X5_two 0 [vR r, vI n0, vI n1, vI n2, vS, vS] [] mem)) m_law 1103 [a0, a1, a2, a3] [s0] := ke_callV (m' := m_X5_two) (as := [vI n0, vI n1, vI n2]) (n := 3) (rest := [s0]) dL_law_1100 rfl rfl rfl rfl rfl rfl (Nat.le_of_ble_eq_true rfl) (Nat.le_of_ble_eq_true rfl) (Nat.le_of_ble_eq_true rfl) rfl
theorem eL_law_1103 : ev X m_law 1103 [a0, a1, a2, a3] (vI y :: vI x :: st) mem = if x = y then ev X m_law 1370 [a0, a1, a2, a3] st mem else ev X m_law 1106 [a0, a1, a2, a3] st mem := ke_icmp_eq dL_law_1103 rfl
theorem eL_law_1106 : ev X m_law 1106 [a0, a1, a2, a3] st mem = ev X m_law 1107 [a0, a1, a2, a3] (vI 0 :: st) mem := ke_iconst (by decide) dL_law_1106
theorem eL_law_1107a : ev X m_law 1107 [a0, a1, a2, a3] [vI 1] mem = some (some (vI 1), mem) := ke_zreturn dL_law_1107 rfl rfl
theorem eL_law_1107b : ev X m_law 1107 [a0, a1, a2, a3] [vI 0] mem = some (some (vI 0), mem) := ke_zreturn dL_law_1107 rfl rfl
theorem eL_law_1107c {c : Prop} [Decidable c] : ev X m_law 1107 [a0, a1, a2, a3] [vI (if c then 1 else 0)] mem = some (some (vI (if c then 1 else 0)), mem) := ke_zreturn dL_law_1107 rfl (by split <;> rfl)
theorem eL_law_1108 : ev X m_law 1108 [a0, vR r, a2, a3] st mem = ev X m_law 1109 [a0, vR r, a2, a3] (vR r :: st) mem := ke_aload_n rfl dL_law_1108
theorem eL_law_1108x : ev X m_law 1108 [a0, vX r, a2, a3] st mem = ev X m_law 1109 [a0, vX r, a2, a3] (vX r :: st) mem := ke_xload_n rfl dL_law_1108
theorem eL_law_1109 : ev X m_law 1109 [vR r, a1, a2, a3] st mem = ev X m_law 1110 [vR r, a1, a2, a3] (vR r :: st) mem := ke_aload_n rfl dL_law_1109
theorem eL_law_1109x : ev X m_law 1109 [vX r, a1, a2, a3] st mem = ev X m_law 1110 [vX r, a1, a2, a3] (vX r :: st) mem := ke_xload_n rfl dL_law_1109
theorem eL_law_1110 : ev X m_law 1110 [a0, a1, a2, vI x] st mem = ev X m_law 1111 [a0, a1, a2, vI x] (vI x :: st) mem := ke_iload_n rfl dL_law_1110
theorem eL_law_1111 : ev X m_law 1111 [a0, a1, a2, a3] st mem = ev X m_law 1112 [a0, a1, a2, a3] (vI 1 :: st) mem := ke_iconst (by decide) dL_law_1111
theorem eL_law_1112 : ev X m_law 1112 [a0, a1, a2, a3] (vI y :: vI x :: st) mem = ev X m_law 1113 [a0, a1, a2, a3] (vI (w32 (x + y)) :: st) mem := ke_iadd dL_law_1112
theorem eL_law_1113 : ev X m_law 1113 [a0, a1, a2, a3] (vI x :: vX 0 :: st) mem = evb X (sget X x) m_law 1114 [a0, a1, a2, a3] st mem := ke_saload dL_law_1113
theorem eL_law_1114 : ev X m_law 1114 [vR r, a1, a2, a3] st mem = ev X m_law 1115 [vR r, a1, a2, a3] (vR r :: st) mem := ke_aload_n rfl dL_law_1114
theorem eL_law_1114x : ev X m_law 1114 [vX r, a1, a2, a3] st mem = ev X m_law 1115 [vX r, a1, a2, a3] (vX r :: st) mem := ke_xload_n rfl dL_law_1114
theorem eL_law_1115 : ev X m_law 1115 [a0, a1, a2, vI x] st mem = ev X m_law 1116 [a0, a1, a2, vI x] (vI x :: st) mem := ke_iload_n rfl dL_law_1115
theorem eL_law_1116 : ev X m_law 1116 [a0, a1, a2, a3] st mem = ev X m_law 1117 [a0, a1, a2, a3] (vI 2 :: st) mem := ke_iconst (by decide) dL_law_1116
theorem eL_law_1117 : ev X m_law 1117 [a0, a1, a2, a3] (vI y :: vI x :: st) mem = ev X m_law 1118 [a0, a1, a2, a3] (vI (w32 (x + y)) :: st) mem := ke_iadd dL_law_1117
theorem eL_law_1118 : ev X m_law 1118 [a0, a1, a2, a3] (vI x :: vX 0 :: st) mem = evb X (sget X x) m_law 1119 [a0, a1, a2, a3] st mem := ke_saload dL_law_1118
theorem eL_law_1119 : ev X m_law 1119 [vR r, a1, a2, a3] st mem = ev X m_law 1120 [vR r, a1, a2, a3] (vR r :: st) mem := ke_aload_n rfl dL_law_1119
theorem eL_law_1119x : ev X m_law 1119 [vX r, a1, a2, a3] st mem = ev X m_law 1120 [vX r, a1, a2, a3] (vX r :: st) mem := ke_xload_n rfl dL_law_1119
theorem eL_law_1120 : ev X m_law 1120 [a0, a1, a2, vI x] st mem = ev X m_law 1121 [a0, a1, a2, vI x] (vI x :: st) mem := ke_iload_n rfl dL_law_1120
theorem eL_law_1121 : ev X m_law 1121 [a0, a1, a2, a3] st mem = ev X m_law 1122 [a0, a1, a2, a3] (vI 3 :: st) mem := ke_iconst (by decide) dL_law_1121
theorem eL_law_1122 : ev X m_law 1122 [a0, a1, a2, a3] (vI y :: vI x :: st) mem = ev X m_law 1123 [a0, a1, a2, a3] (vI (w32 (x + y)) :: st) mem := ke_iadd dL_law_1122
theorem eL_law_1123 : ev X m_law 1123 [a0, a1, a2, a3] (vI x :: vX 0 :: st) mem = evb X (sget X x) m_law 1124 [a0, a1, a2, a3] st mem := ke_saload dL_law_1123
theorem eL_law_1124 : ev X m_law 1124 [vR r, a1, a2, a3] st mem = ev X m_law 1125 [vR r, a1, a2, a3] (vR r :: st) mem := ke_aload_n rfl dL_law_1124
theorem eL_law_1124x : ev X m_law 1124 [vX r, a1, a2, a3] st mem = ev X m_law 1125 [vX r, a1, a2, a3] (vX r :: st) mem := ke_xload_n rfl dL_law_1124
theorem eL_law_1125 : ev X m_law 1125 [a0, a1, a2, vI x] st mem = ev X m_law 1126 [a0, a1, a2, vI x] (vI x :: st) mem := ke_iload_n rfl dL_law_1125
theorem eL_law_1126 : ev X m_law 1126 [a0, a1, a2, a3] st mem = ev X m_law 1127 [a0, a1, a2, a3] (vI 4 :: st) mem := ke_iconst (by decide) dL_law_1126
theorem eL_law_1127 : ev X m_law 1127 [a0, a1, a2, a3] (vI y :: vI x :: st) mem = ev X m_law 1128 [a0, a1, a2, a3] (vI (w32 (x + y)) :: st) mem := ke_iadd dL_law_1127
theorem eL_law_1128 : ev X m_law 1128 [a0, a1, a2, a3] (vI x :: vX 0 :: st) mem = evb X (sget X x) m_law 1129 [a0, a1, a2, a3] st mem := ke_saload dL_law_1128
theorem eL_law_1129 : ev X m_law 1129 [a0, a1, a2, a3] (vI n3 :: vI n2 :: vI n1 :: vI n0 :: vR r :: []) mem = evc X (gR mem r 4 (ev X m_X4_snow 0 [vR r, vI n0, vI n1, vI n2, vI n3, vS, vS, vS] [] mem)) m_law 1132 [a0, a1, a2, a3] [] := ke_callV (m' := m_X4_snow) (as := [vI n0, vI n1, vI n2, vI n3]) (n := 4) (rest := []) dL_law_1129 rfl rfl rfl rfl rfl rfl (Nat.le_of_ble_eq_true rfl) (Nat.le_of_ble_eq_true rfl) (Nat.le_of_ble_eq_true rfl) rfl
theorem eL_law_1132 : ev X m_law 1132 [a0, a1, vR r, a3] st mem = ev X m_law 1133 [a0, a1, vR r, a3] (vR r :: st) mem := ke_aload_n rfl dL_law_1132
theorem eL_law_1132x : ev X m_law 1132 [a0, a1, vX r, a3] st mem = ev X m_law 1133 [a0, a1, vX r, a3] (vX r :: st) mem := ke_xload_n rfl dL_law_1132
theorem eL_law_1133 : ev X m_law 1133 [vR r, a1, a2, a3] st mem = ev X m_law 1134 [vR r, a1, a2, a3] (vR r :: st) mem := ke_aload_n rfl dL_law_1133
theorem eL_law_1133x : ev X m_law 1133 [vX r, a1, a2, a3] st mem = ev X m_law 1134 [vX r, a1, a2, a3] (vX r :: st) mem := ke_xload_n rfl dL_law_1133
theorem eL_law_1134 : ev X m_law 1134 [a0, a1, a2, vI x] st mem = ev X m_law 1135 [a0, a1, a2, vI x] (vI x :: st) mem := ke_iload_n rfl dL_law_1134
theorem eL_law_1135 : ev X m_law 1135 [a0, a1, a2, a3] st mem = ev X m_law 1136 [a0, a1, a2, a3] (vI 1 :: st) mem := ke_iconst (by decide) dL_law_1135
theorem eL_law_1136 : ev X m_law 1136 [a0, a1, a2, a3] (vI y :: vI x :: st) mem = ev X m_law 1137 [a0, a1, a2, a3] (vI (w32 (x + y)) :: st) mem := ke_iadd dL_law_1136
theorem eL_law_1137 : ev X m_law 1137 [a0, a1, a2, a3] (vI x :: vX 0 :: st) mem = evb X (sget X x) m_law 1138 [a0, a1, a2, a3] st mem := ke_saload dL_law_1137
theorem eL_law_1138 : ev X m_law 1138 [vR r, a1, a2, a3] st mem = ev X m_law 1139 [vR r, a1, a2, a3] (vR r :: st) mem := ke_aload_n rfl dL_law_1138
theorem eL_law_1138x : ev X m_law 1138 [vX r, a1, a2, a3] st mem = ev X m_law 1139 [vX r, a1, a2, a3] (vX r :: st) mem := ke_xload_n rfl dL_law_1138
theorem eL_law_1139 : ev X m_law 1139 [a0, a1, a2, vI x] st mem = ev X m_law 1140 [a0, a1, a2, vI x] (vI x :: st) mem := ke_iload_n rfl dL_law_1139
theorem eL_law_1140 : ev X m_law 1140 [a0, a1, a2, a3] st mem = ev X m_law 1141 [a0, a1, a2, a3] (vI 2 :: st) mem := ke_iconst (by decide) dL_law_1140
theorem eL_law_1141 : ev X m_law 1141 [a0, a1, a2, a3] (vI y :: vI x :: st) mem = ev X m_law 1142 [a0, a1, a2, a3] (vI (w32 (x + y)) :: st) mem := ke_iadd dL_law_1141
theorem eL_law_1142 : ev X m_law 1142 [a0, a1, a2, a3] (vI x :: vX 0 :: st) mem = evb X (sget X x) m_law 1143 [a0, a1, a2, a3] st mem := ke_saload dL_law_1142
theorem eL_law_1143 : ev X m_law 1143 [vR r, a1, a2, a3] st mem = ev X m_law 1144 [vR r, a1, a2, a3] (vR r :: st) mem := ke_aload_n rfl dL_law_1143
theorem eL_law_1143x : ev X m_law 1143 [vX r, a1, a2, a3] st mem = ev X m_law 1144 [vX r, a1, a2, a3] (vX r :: st) mem := ke_xload_n rfl dL_law_1143
theorem eL_law_1144 : ev X m_law 1144 [a0, a1, a2, vI x] st mem = ev X m_law 1145 [a0, a1, a2, vI x] (vI x :: st) mem := ke_iload_n rfl dL_law_1144
theorem eL_law_1145 : ev X m_law 1145 [a0, a1, a2, a3] st mem = ev X m_law 1146 [a0, a1, a2, a3] (vI 3 :: st) mem := ke_iconst (by decide) dL_law_1145
theorem eL_law_1146 : ev X m_law 1146 [a0, a1, a2, a3] (vI y :: vI x :: st) mem = ev X m_law 1147 [a0, a1, a2, a3] (vI (w32 (x + y)) :: st) mem := ke_iadd dL_law_1146
theorem eL_law_1147 : ev X m_law 1147 [a0, a1, a2, a3] (vI x :: vX 0 :: st) mem = evb X (sget X x) m_law 1148 [a0, a1, a2, a3] st mem := ke_saload dL_law_1147
theorem eL_law_1148 : ev X m_law 1148 [vR r, a1, a2, a3] st mem = ev X m_law 1149 [vR r, a1, a2, a3] (vR r :: st) mem := ke_aload_n rfl dL_law_1148
theorem eL_law_1148x : ev X m_law 1148 [vX r, a1, a2, a3] st mem = ev X m_law 1149 [vX r, a1, a2, a3] (vX r :: st) mem := ke_xload_n rfl dL_law_1148
theorem eL_law_1149 : ev X m_law 1149 [a0, a1, a2, vI x] st mem = ev X m_law 1150 [a0, a1, a2, vI x] (vI x :: st) mem := ke_iload_n rfl dL_law_1149
theorem eL_law_1150 : ev X m_law 1150 [a0, a1, a2, a3] st mem = ev X m_law 1151 [a0, a1, a2, a3] (vI 4 :: st) mem := ke_iconst (by decide) dL_law_1150
theorem eL_law_1151 : ev X m_law 1151 [a0, a1, a2, a3] (vI y :: vI x :: st) mem = ev X m_law 1152 [a0, a1, a2, a3] (vI (w32 (x + y)) :: st) mem := ke_iadd dL_law_1151
theorem eL_law_1152 : ev X m_law 1152 [a0, a1, a2, a3] (vI x :: vX 0 :: st) mem = evb X (sget X x) m_law 1153 [a0, a1, a2, a3] st mem := ke_saload dL_law_1152
theorem eL_law_1153 : ev X m_law 1153 [a0, a1, a2, a3] (vI n3 :: vI n2 :: vI n1 :: vI n0 :: vR r :: [s0]) mem = evc X (gR mem r 5 (ev X m_X5_snow 0 [vR r, vI n0, vI n1, vI n2, vI n3, vS, vS, vS, vS, vS, vS, vS, vS, vS] [] mem)) m_law 1156 [a0, a1, a2, a3] [s0] := ke_callV (m' := m_X5_snow) (as := [vI n0, vI n1, vI n2, vI n3]) (n := 4) (rest := [s0]) dL_law_1153 rfl rfl rfl rfl rfl rfl (Nat.le_of_ble_eq_true rfl) (Nat.le_of_ble_eq_true rfl) (Nat.le_of_ble_eq_true rfl) rfl
theorem eL_law_1156 : ev X m_law 1156 [a0, a1, a2, a3] (vL y :: vL x :: st) mem = ev X m_law 1157 [a0, a1, a2, a3] (vI (lcmp x y) :: st) mem := ke_lcmp dL_law_1156
theorem eL_law_1157 : ev X m_law 1157 [a0, a1, a2, a3] (vI x :: st) mem = if x = 0 then ev X m_law 1370 [a0, a1, a2, a3] st mem else ev X m_law 1160 [a0, a1, a2, a3] st mem := ke_if_eq dL_law_1157 rfl
theorem eL_law_1160 : ev X m_law 1160 [a0, a1, a2, a3] st mem = ev X m_law 1161 [a0, a1, a2, a3] (vI 0 :: st) mem := ke_iconst (by decide) dL_law_1160
theorem eL_law_1161a : ev X m_law 1161 [a0, a1, a2, a3] [vI 1] mem = some (some (vI 1), mem) := ke_zreturn dL_law_1161 rfl rfl
theorem eL_law_1161b : ev X m_law 1161 [a0, a1, a2, a3] [vI 0] mem = some (some (vI 0), mem) := ke_zreturn dL_law_1161 rfl rfl
theorem eL_law_1161c {c : Prop} [Decidable c] : ev X m_law 1161 [a0, a1, a2, a3] [vI (if c then 1 else 0)] mem = some (some (vI (if c then 1 else 0)), mem) := ke_zreturn dL_law_1161 rfl (by split <;> rfl)
theorem eL_law_1162 : ev X m_law 1162 [a0, vR r, a2, a3] st mem = ev X m_law 1163 [a0, vR r, a2, a3] (vR r :: st) mem := ke_aload_n rfl dL_law_1162
theorem eL_law_1162x : ev X m_law 1162 [a0, vX r, a2, a3] st mem = ev X m_law 1163 [a0, vX r, a2, a3] (vX r :: st) mem := ke_xload_n rfl dL_law_1162
theorem eL_law_1163 : ev X m_law 1163 [vR r, a1, a2, a3] st mem = ev X m_law 1164 [vR r, a1, a2, a3] (vR r :: st) mem := ke_aload_n rfl dL_law_1163
theorem eL_law_1163x : ev X m_law 1163 [vX r, a1, a2, a3] st mem = ev X m_law 1164 [vX r, a1, a2, a3] (vX r :: st) mem := ke_xload_n rfl dL_law_1163
theorem eL_law_1164 : ev X m_law 1164 [a0, a1, a2, vI x] st mem = ev X m_law 1165 [a0, a1, a2, vI x] (vI x :: st) mem := ke_iload_n rfl dL_law_1164
theorem eL_law_1165 : ev X m_law 1165 [a0, a1, a2, a3] st mem = ev X m_law 1166 [a0, a1, a2, a3] (vI 1 :: st) mem := ke_iconst (by decide) dL_law_1165
theorem eL_law_1166 : ev X m_law 1166 [a0, a1, a2, a3] (vI y :: vI x :: st) mem = ev X m_law 1167 [a0, a1, a2, a3] (vI (w32 (x + y)) :: st) mem := ke_iadd dL_law_1166
theorem eL_law_1167 : ev X m_law 1167 [a0, a1, a2, a3] (vI x :: vX 0 :: st) mem = evb X (sget X x) m_law 1168 [a0, a1, a2, a3] st mem := ke_saload dL_law_1167
theorem eL_law_1168 : ev X m_law 1168 [a0, a1, a2, a3] (vI n0 :: vR r :: []) mem = evc X (gR mem r 4 (ev X m_X4_mean 0 [vR r, vI n0] [] mem)) m_law 1171 [a0, a1, a2, a3] [] := ke_callV (m' := m_X4_mean) (as := [vI n0]) (n := 1) (rest := []) dL_law_1168 rfl rfl rfl rfl rfl rfl (Nat.le_of_ble_eq_true rfl) (Nat.le_of_ble_eq_true rfl) (Nat.le_of_ble_eq_true rfl) rfl
theorem eL_law_1171 : ev X m_law 1171 [a0, a1, vR r, a3] st mem = ev X m_law 1172 [a0, a1, vR r, a3] (vR r :: st) mem := ke_aload_n rfl dL_law_1171
theorem eL_law_1171x : ev X m_law 1171 [a0, a1, vX r, a3] st mem = ev X m_law 1172 [a0, a1, vX r, a3] (vX r :: st) mem := ke_xload_n rfl dL_law_1171
theorem eL_law_1172 : ev X m_law 1172 [vR r, a1, a2, a3] st mem = ev X m_law 1173 [vR r, a1, a2, a3] (vR r :: st) mem := ke_aload_n rfl dL_law_1172
theorem eL_law_1172x : ev X m_law 1172 [vX r, a1, a2, a3] st mem = ev X m_law 1173 [vX r, a1, a2, a3] (vX r :: st) mem := ke_xload_n rfl dL_law_1172
theorem eL_law_1173 : ev X m_law 1173 [a0, a1, a2, vI x] st mem = ev X m_law 1174 [a0, a1, a2, vI x] (vI x :: st) mem := ke_iload_n rfl dL_law_1173
theorem eL_law_1174 : ev X m_law 1174 [a0, a1, a2, a3] st mem = ev X m_law 1175 [a0, a1, a2, a3] (vI 1 :: st) mem := ke_iconst (by decide) dL_law_1174
theorem eL_law_1175 : ev X m_law 1175 [a0, a1, a2, a3] (vI y :: vI x :: st) mem = ev X m_law 1176 [a0, a1, a2, a3] (vI (w32 (x + y)) :: st) mem := ke_iadd dL_law_1175
theorem eL_law_1176 : ev X m_law 1176 [a0, a1, a2, a3] (vI x :: vX 0 :: st) mem = evb X (sget X x) m_law 1177 [a0, a1, a2, a3] st mem := ke_saload dL_law_1176
theorem eL_law_1177 : ev X m_law 1177 [a0, a1, a2, a3] (vI n0 :: vR r :: [s0]) mem = evc X (gR mem r 5 (ev X m_X5_mean 0 [vR r, vI n0] [] mem)) m_law 1180 [a0, a1, a2, a3] [s0] := ke_callV (m' := m_X5_mean) (as := [vI n0]) (n := 1) (rest := [s0]) dL_law_1177 rfl rfl rfl rfl rfl rfl (Nat.le_of_ble_eq_true rfl) (Nat.le_of_ble_eq_true rfl) (Nat.le_of_ble_eq_true rfl) rfl
theorem eL_law_1180 : ev X m_law 1180 [a0, a1, a2, a3] (vL y :: vL x :: st) mem = ev X m_law 1181 [a0, a1, a2, a3] (vI (lcmp x y) :: st) mem := ke_lcmp dL_law_1180
theorem eL_law_1181 : ev X m_law 1181 [a0, a1, a2, a3] (vI x :: st) mem = if x = 0 then ev X m_law 1370 [a0, a1, a2, a3] st mem else ev X m_law 1184 [a0, a1, a2, a3] st mem := ke_if_eq dL_law_1181 rfl
theorem eL_law_1184 : ev X m_law 1184 [a0, a1, a2, a3] st mem = ev X m_law 1185 [a0, a1, a2, a3] (vI 0 :: st) mem := ke_iconst (by decide) dL_law_1184
theorem eL_law_1185a : ev X m_law 1185 [a0, a1, a2, a3] [vI 1] mem = some (some (vI 1), mem) := ke_zreturn dL_law_1185 rfl rfl
theorem eL_law_1185b : ev X m_law 1185 [a0, a1, a2, a3] [vI 0] mem = some (some (vI 0), mem) := ke_zreturn dL_law_1185 rfl rfl
theorem eL_law_1185c {c : Prop} [Decidable c] : ev X m_law 1185 [a0, a1, a2, a3] [vI (if c then 1 else 0)] mem = some (some (vI (if c then 1 else 0)), mem) := ke_zreturn dL_law_1185 rfl (by split <;> rfl)
theorem eL_law_1186 : ev X m_law 1186 [a0, vR r, a2, a3] st mem = ev X m_law 1187 [a0, vR r, a2, a3] (vR r :: st) mem := ke_aload_n rfl dL_law_1186
theorem eL_law_1186x : ev X m_law 1186 [a0, vX r, a2, a3] st mem = ev X m_law 1187 [a0, vX r, a2, a3] (vX r :: st) mem := ke_xload_n rfl dL_law_1186
theorem eL_law_1187 : ev X m_law 1187 [vR r, a1, a2, a3] st mem = ev X m_law 1188 [vR r, a1, a2, a3] (vR r :: st) mem := ke_aload_n rfl dL_law_1187
theorem eL_law_1187x : ev X m_law 1187 [vX r, a1, a2, a3] st mem = ev X m_law 1188 [vX r, a1, a2, a3] (vX r :: st) mem := ke_xload_n rfl dL_law_1187
theorem eL_law_1188 : ev X m_law 1188 [a0, a1, a2, vI x] st mem = ev X m_law 1189 [a0, a1, a2, vI x] (vI x :: st) mem := ke_iload_n rfl dL_law_1188
theorem eL_law_1189 : ev X m_law 1189 [a0, a1, a2, a3] st mem = ev X m_law 1190 [a0, a1, a2, a3] (vI 1 :: st) mem := ke_iconst (by decide) dL_law_1189
theorem eL_law_1190 : ev X m_law 1190 [a0, a1, a2, a3] (vI y :: vI x :: st) mem = ev X m_law 1191 [a0, a1, a2, a3] (vI (w32 (x + y)) :: st) mem := ke_iadd dL_law_1190
theorem eL_law_1191 : ev X m_law 1191 [a0, a1, a2, a3] (vI x :: vX 0 :: st) mem = evb X (sget X x) m_law 1192 [a0, a1, a2, a3] st mem := ke_saload dL_law_1191
theorem eL_law_1192 : ev X m_law 1192 [vR r, a1, a2, a3] st mem = ev X m_law 1193 [vR r, a1, a2, a3] (vR r :: st) mem := ke_aload_n rfl dL_law_1192
theorem eL_law_1192x : ev X m_law 1192 [vX r, a1, a2, a3] st mem = ev X m_law 1193 [vX r, a1, a2, a3] (vX r :: st) mem := ke_xload_n rfl dL_law_1192
theorem eL_law_1193 : ev X m_law 1193 [a0, a1, a2, vI x] st mem = ev X m_law 1194 [a0, a1, a2, vI x] (vI x :: st) mem := ke_iload_n rfl dL_law_1193
theorem eL_law_1194 : ev X m_law 1194 [a0, a1, a2, a3] st mem = ev X m_law 1195 [a0, a1, a2, a3] (vI 2 :: st) mem := ke_iconst (by decide) dL_law_1194
theorem eL_law_1195 : ev X m_law 1195 [a0, a1, a2, a3] (vI y :: vI x :: st) mem = ev X m_law 1196 [a0, a1, a2, a3] (vI (w32 (x + y)) :: st) mem := ke_iadd dL_law_1195
theorem eL_law_1196 : ev X m_law 1196 [a0, a1, a2, a3] (vI x :: vX 0 :: st) mem = evb X (sget X x) m_law 1197 [a0, a1, a2, a3] st mem := ke_saload dL_law_1196
theorem eL_law_1197 : ev X m_law 1197 [vR r, a1, a2, a3] st mem = ev X m_law 1198 [vR r, a1, a2, a3] (vR r :: st) mem := ke_aload_n rfl dL_law_1197
theorem eL_law_1197x : ev X m_law 1197 [vX r, a1, a2, a3] st mem = ev X m_law 1198 [vX r, a1, a2, a3] (vX r :: st) mem := ke_xload_n rfl dL_law_1197
theorem eL_law_1198 : ev X m_law 1198 [a0, a1, a2, vI x] st mem = ev X m_law 1199 [a0, a1, a2, vI x] (vI x :: st) mem := ke_iload_n rfl dL_law_1198
theorem eL_law_1199 : ev X m_law 1199 [a0, a1, a2, a3] st mem = ev X m_law 1200 [a0, a1, a2, a3] (vI 3 :: st) mem := ke_iconst (by decide) dL_law_1199
theorem eL_law_1200 : ev X m_law 1200 [a0, a1, a2, a3] (vI y :: vI x :: st) mem = ev X m_law 1201 [a0, a1, a2, a3] (vI (w32 (x + y)) :: st) mem := ke_iadd dL_law_1200
theorem eL_law_1201 : ev X m_law 1201 [a0, a1, a2, a3] (vI x :: vX 0 :: st) mem = evb X (sget X x) m_law 1202 [a0, a1, a2, a3] st mem := ke_saload dL_law_1201
theorem eL_law_1202 : ev X m_law 1202 [a0, a1, a2, a3] (vI n2 :: vI n1 :: vI n0 :: vR r :: []) mem = evc X (gR mem r 4 (ev X m_X4_who 0 [vR r, vI n0, vI n1, vI n2] [] mem)) m_law 1205 [a0, a1, a2, a3] [] := ke_callV (m' := m_X4_who) (as := [vI n0, vI n1, vI n2]) (n := 3) (rest := []) dL_law_1202 rfl rfl rfl rfl rfl rfl (Nat.le_of_ble_eq_true rfl) (Nat.le_of_ble_eq_true rfl) (Nat.le_of_ble_eq_true rfl) rfl
theorem eL_law_1205 : ev X m_law 1205 [a0, a1, vR r, a3] st mem = ev X m_law 1206 [a0, a1, vR r, a3] (vR r :: st) mem := ke_aload_n rfl dL_law_1205
theorem eL_law_1205x : ev X m_law 1205 [a0, a1, vX r, a3] st mem = ev X m_law 1206 [a0, a1, vX r, a3] (vX r :: st) mem := ke_xload_n rfl dL_law_1205
theorem eL_law_1206 : ev X m_law 1206 [vR r, a1, a2, a3] st mem = ev X m_law 1207 [vR r, a1, a2, a3] (vR r :: st) mem := ke_aload_n rfl dL_law_1206
theorem eL_law_1206x : ev X m_law 1206 [vX r, a1, a2, a3] st mem = ev X m_law 1207 [vX r, a1, a2, a3] (vX r :: st) mem := ke_xload_n rfl dL_law_1206
theorem eL_law_1207 : ev X m_law 1207 [a0, a1, a2, vI x] st mem = ev X m_law 1208 [a0, a1, a2, vI x] (vI x :: st) mem := ke_iload_n rfl dL_law_1207
theorem eL_law_1208 : ev X m_law 1208 [a0, a1, a2, a3] st mem = ev X m_law 1209 [a0, a1, a2, a3] (vI 1 :: st) mem := ke_iconst (by decide) dL_law_1208
theorem eL_law_1209 : ev X m_law 1209 [a0, a1, a2, a3] (vI y :: vI x :: st) mem = ev X m_law 1210 [a0, a1, a2, a3] (vI (w32 (x + y)) :: st) mem := ke_iadd dL_law_1209
theorem eL_law_1210 : ev X m_law 1210 [a0, a1, a2, a3] (vI x :: vX 0 :: st) mem = evb X (sget X x) m_law 1211 [a0, a1, a2, a3] st mem := ke_saload dL_law_1210
theorem eL_law_1211 : ev X m_law 1211 [vR r, a1, a2, a3] st mem = ev X m_law 1212 [vR r, a1, a2, a3] (vR r :: st) mem := ke_aload_n rfl dL_law_1211
theorem eL_law_1211x : ev X m_law 1211 [vX r, a1, a2, a3] st mem = ev X m_law 1212 [vX r, a1, a2, a3] (vX r :: st) mem := ke_xload_n rfl dL_law_1211
theorem eL_law_1212 : ev X m_law 1212 [a0, a1, a2, vI x] st mem = ev X m_law 1213 [a0, a1, a2, vI x] (vI x :: st) mem := ke_iload_n rfl dL_law_1212
theorem eL_law_1213 : ev X m_law 1213 [a0, a1, a2, a3] st mem = ev X m_law 1214 [a0, a1, a2, a3] (vI 2 :: st) mem := ke_iconst (by decide) dL_law_1213
theorem eL_law_1214 : ev X m_law 1214 [a0, a1, a2, a3] (vI y :: vI x :: st) mem = ev X m_law 1215 [a0, a1, a2, a3] (vI (w32 (x + y)) :: st) mem := ke_iadd dL_law_1214
theorem eL_law_1215 : ev X m_law 1215 [a0, a1, a2, a3] (vI x :: vX 0 :: st) mem = evb X (sget X x) m_law 1216 [a0, a1, a2, a3] st mem := ke_saload dL_law_1215
theorem eL_law_1216 : ev X m_law 1216 [vR r, a1, a2, a3] st mem = ev X m_law 1217 [vR r, a1, a2, a3] (vR r :: st) mem := ke_aload_n rfl dL_law_1216
theorem eL_law_1216x : ev X m_law 1216 [vX r, a1, a2, a3] st mem = ev X m_law 1217 [vX r, a1, a2, a3] (vX r :: st) mem := ke_xload_n rfl dL_law_1216
theorem eL_law_1217 : ev X m_law 1217 [a0, a1, a2, vI x] st mem = ev X m_law 1218 [a0, a1, a2, vI x] (vI x :: st) mem := ke_iload_n rfl dL_law_1217
theorem eL_law_1218 : ev X m_law 1218 [a0, a1, a2, a3] st mem = ev X m_law 1219 [a0, a1, a2, a3] (vI 3 :: st) mem := ke_iconst (by decide) dL_law_1218
theorem eL_law_1219 : ev X m_law 1219 [a0, a1, a2, a3] (vI y :: vI x :: st) mem = ev X m_law 1220 [a0, a1, a2, a3] (vI (w32 (x + y)) :: st) mem := ke_iadd dL_law_1219
theorem eL_law_1220 : ev X m_law 1220 [a0, a1, a2, a3] (vI x :: vX 0 :: st) mem = evb X (sget X x) m_law 1221 [a0, a1, a2, a3] st mem := ke_saload dL_law_1220
theorem eL_law_1221 : ev X m_law 1221 [a0, a1, a2, a3] (vI n2 :: vI n1 :: vI n0 :: vR r :: [s0]) mem = evc X (gR mem r 5 (ev X m_X5_who 0 [vR r, vI n0, vI n1, vI n2, vS] [] mem)) m_law 1224 [a0, a1, a2, a3] [s0] := ke_callV (m' := m_X5_who) (as := [vI n0, vI n1, vI n2]) (n := 3) (rest := [s0]) dL_law_1221 rfl rfl rfl rfl rfl rfl (Nat.le_of_ble_eq_true rfl) (Nat.le_of_ble_eq_true rfl) (Nat.le_of_ble_eq_true rfl) rfl
theorem eL_law_1224 : ev X m_law 1224 [a0, a1, a2, a3] (vI y :: vI x :: st) mem = if x = y then ev X m_law 1370 [a0, a1, a2, a3] st mem else ev X m_law 1227 [a0, a1, a2, a3] st mem := ke_icmp_eq dL_law_1224 rfl
theorem eL_law_1227 : ev X m_law 1227 [a0, a1, a2, a3] st mem = ev X m_law 1228 [a0, a1, a2, a3] (vI 0 :: st) mem := ke_iconst (by decide) dL_law_1227
theorem eL_law_1228a : ev X m_law 1228 [a0, a1, a2, a3] [vI 1] mem = some (some (vI 1), mem) := ke_zreturn dL_law_1228 rfl rfl
theorem eL_law_1228b : ev X m_law 1228 [a0, a1, a2, a3] [vI 0] mem = some (some (vI 0), mem) := ke_zreturn dL_law_1228 rfl rfl
theorem eL_law_1228c {c : Prop} [Decidable c] : ev X m_law 1228 [a0, a1, a2, a3] [vI (if c then 1 else 0)] mem = some (some (vI (if c then 1 else 0)), mem) := ke_zreturn dL_law_1228 rfl (by split <;> rfl)
theorem eL_law_1229 : ev X m_law 1229 [a0, vR r, a2, a3] st mem = ev X m_law 1230 [a0, vR r, a2, a3] (vR r :: st) mem := ke_aload_n rfl dL_law_1229
theorem eL_law_1229x : ev X m_law 1229 [a0, vX r, a2, a3] st mem = ev X m_law 1230 [a0, vX r, a2, a3] (vX r :: st) mem := ke_xload_n rfl dL_law_1229
theorem eL_law_1230 : ev X m_law 1230 [vR r, a1, a2, a3] st mem = ev X m_law 1231 [vR r, a1, a2, a3] (vR r :: st) mem := ke_aload_n rfl dL_law_1230
theorem eL_law_1230x : ev X m_law 1230 [vX r, a1, a2, a3] st mem = ev X m_law 1231 [vX r, a1, a2, a3] (vX r :: st) mem := ke_xload_n rfl dL_law_1230
theorem eL_law_1231 : ev X m_law 1231 [a0, a1, a2, vI x] st mem = ev X m_law 1232 [a0, a1, a2, vI x] (vI x :: st) mem := ke_iload_n rfl dL_law_1231
theorem eL_law_1232 : ev X m_law 1232 [a0, a1, a2, a3] st mem = ev X m_law 1233 [a0, a1, a2, a3] (vI 1 :: st) mem := ke_iconst (by decide) dL_law_1232
theorem eL_law_1233 : ev X m_law 1233 [a0, a1, a2, a3] (vI y :: vI x :: st) mem = ev X m_law 1234 [a0, a1, a2, a3] (vI (w32 (x + y)) :: st) mem := ke_iadd dL_law_1233
theorem eL_law_1234 : ev X m_law 1234 [a0, a1, a2, a3] (vI x :: vX 0 :: st) mem = evb X (sget X x) m_law 1235 [a0, a1, a2, a3] st mem := ke_saload dL_law_1234
theorem eL_law_1235 : ev X m_law 1235 [a0, a1, a2, a3] (vI n0 :: vR r :: []) mem = evc X (gR mem r 4 (ev X m_X4_row 0 [vR r, vI n0] [] mem)) m_law 1238 [a0, a1, a2, a3] [] := ke_callV (m' := m_X4_row) (as := [vI n0]) (n := 1) (rest := []) dL_law_1235 rfl rfl rfl rfl rfl rfl (Nat.le_of_ble_eq_true rfl) (Nat.le_of_ble_eq_true rfl) (Nat.le_of_ble_eq_true rfl) rfl
theorem eL_law_1238 : ev X m_law 1238 [a0, a1, vR r, a3] st mem = ev X m_law 1239 [a0, a1, vR r, a3] (vR r :: st) mem := ke_aload_n rfl dL_law_1238
theorem eL_law_1238x : ev X m_law 1238 [a0, a1, vX r, a3] st mem = ev X m_law 1239 [a0, a1, vX r, a3] (vX r :: st) mem := ke_xload_n rfl dL_law_1238
theorem eL_law_1239 : ev X m_law 1239 [vR r, a1, a2, a3] st mem = ev X m_law 1240 [vR r, a1, a2, a3] (vR r :: st) mem := ke_aload_n rfl dL_law_1239
theorem eL_law_1239x : ev X m_law 1239 [vX r, a1, a2, a3] st mem = ev X m_law 1240 [vX r, a1, a2, a3] (vX r :: st) mem := ke_xload_n rfl dL_law_1239
theorem eL_law_1240 : ev X m_law 1240 [a0, a1, a2, vI x] st mem = ev X m_law 1241 [a0, a1, a2, vI x] (vI x :: st) mem := ke_iload_n rfl dL_law_1240
theorem eL_law_1241 : ev X m_law 1241 [a0, a1, a2, a3] st mem = ev X m_law 1242 [a0, a1, a2, a3] (vI 1 :: st) mem := ke_iconst (by decide) dL_law_1241
theorem eL_law_1242 : ev X m_law 1242 [a0, a1, a2, a3] (vI y :: vI x :: st) mem = ev X m_law 1243 [a0, a1, a2, a3] (vI (w32 (x + y)) :: st) mem := ke_iadd dL_law_1242
theorem eL_law_1243 : ev X m_law 1243 [a0, a1, a2, a3] (vI x :: vX 0 :: st) mem = evb X (sget X x) m_law 1244 [a0, a1, a2, a3] st mem := ke_saload dL_law_1243
theorem eL_law_1244 : ev X m_law 1244 [a0, a1, a2, a3] (vI n0 :: vR r :: [s0]) mem = evc X (gR mem r 5 (ev X m_X5_row 0 [vR r, vI n0, vS] [] mem)) m_law 1247 [a0, a1, a2, a3] [s0] := ke_callV (m' := m_X5_row) (as := [vI n0]) (n := 1) (rest := [s0]) dL_law_1244 rfl rfl rfl rfl rfl rfl (Nat.le_of_ble_eq_true rfl) (Nat.le_of_ble_eq_true rfl) (Nat.le_of_ble_eq_true rfl) rfl
theorem eL_law_1247 : ev X m_law 1247 [a0, a1, a2, a3] (vI y :: vI x :: st) mem = if x = y then ev X m_law 1370 [a0, a1, a2, a3] st mem else ev X m_law 1250 [a0, a1, a2, a3] st mem := ke_icmp_eq dL_law_1247 rfl
theorem eL_law_1250 : ev X m_law 1250 [a0, a1, a2, a3] st mem = ev X m_law 1251 [a0, a1, a2, a3] (vI 0 :: st) mem := ke_iconst (by decide) dL_law_1250
theorem eL_law_1251a : ev X m_law 1251 [a0, a1, a2, a3] [vI 1] mem = some (some (vI 1), mem) := ke_zreturn dL_law_1251 rfl rfl
theorem eL_law_1251b : ev X m_law 1251 [a0, a1, a2, a3] [vI 0] mem = some (some (vI 0), mem) := ke_zreturn dL_law_1251 rfl rfl
theorem eL_law_1251c {c : Prop} [Decidable c] : ev X m_law 1251 [a0, a1, a2, a3] [vI (if c then 1 else 0)] mem = some (some (vI (if c then 1 else 0)), mem) := ke_zreturn dL_law_1251 rfl (by split <;> rfl)
theorem eL_law_1252 : ev X m_law 1252 [a0, vR r, a2, a3] st mem = ev X m_law 1253 [a0, vR r, a2, a3] (vR r :: st) mem := ke_aload_n rfl dL_law_1252
theorem eL_law_1252x : ev X m_law 1252 [a0, vX r, a2, a3] st mem = ev X m_law 1253 [a0, vX r, a2, a3] (vX r :: st) mem := ke_xload_n rfl dL_law_1252
theorem eL_law_1253 : ev X m_law 1253 [a0, a1, a2, a3] (vR r :: []) mem = evc X (gR mem r 4 (ev X m_X4_judge 0 [vR r, vS, vS] [] mem)) m_law 1256 [a0, a1, a2, a3] [] := ke_callV (m' := m_X4_judge) (as := []) (n := 0) (rest := []) dL_law_1253 rfl rfl rfl rfl rfl rfl (Nat.le_of_ble_eq_true rfl) (Nat.le_of_ble_eq_true rfl) (Nat.le_of_ble_eq_true rfl) rfl
theorem eL_law_1256 : ev X m_law 1256 [a0, a1, vR r, a3] st mem = ev X m_law 1257 [a0, a1, vR r, a3] (vR r :: st) mem := ke_aload_n rfl dL_law_1256
theorem eL_law_1256x : ev X m_law 1256 [a0, a1, vX r, a3] st mem = ev X m_law 1257 [a0, a1, vX r, a3] (vX r :: st) mem := ke_xload_n rfl dL_law_1256
theorem eL_law_1257 : ev X m_law 1257 [a0, a1, a2, a3] (vR r :: [s0]) mem = evc X (gR mem r 5 (ev X m_X5_judge 0 [vR r, vS, vS] [] mem)) m_law 1260 [a0, a1, a2, a3] [s0] := ke_callV (m' := m_X5_judge) (as := []) (n := 0) (rest := [s0]) dL_law_1257 rfl rfl rfl rfl rfl rfl (Nat.le_of_ble_eq_true rfl) (Nat.le_of_ble_eq_true rfl) (Nat.le_of_ble_eq_true rfl) rfl
theorem eL_law_1260 : ev X m_law 1260 [a0, a1, a2, a3] (vI y :: vI x :: st) mem = if x = y then ev X m_law 1370 [a0, a1, a2, a3] st mem else ev X m_law 1263 [a0, a1, a2, a3] st mem := ke_icmp_eq dL_law_1260 rfl
theorem eL_law_1263 : ev X m_law 1263 [a0, a1, a2, a3] st mem = ev X m_law 1264 [a0, a1, a2, a3] (vI 0 :: st) mem := ke_iconst (by decide) dL_law_1263
theorem eL_law_1264a : ev X m_law 1264 [a0, a1, a2, a3] [vI 1] mem = some (some (vI 1), mem) := ke_zreturn dL_law_1264 rfl rfl
theorem eL_law_1264b : ev X m_law 1264 [a0, a1, a2, a3] [vI 0] mem = some (some (vI 0), mem) := ke_zreturn dL_law_1264 rfl rfl
theorem eL_law_1264c {c : Prop} [Decidable c] : ev X m_law 1264 [a0, a1, a2, a3] [vI (if c then 1 else 0)] mem = some (some (vI (if c then 1 else 0)), mem) := ke_zreturn dL_law_1264 rfl (by split <;> rfl)
theorem eL_law_1265 : ev X m_law 1265 [a0, vR r, a2, a3] st mem = ev X m_law 1266 [a0, vR r, a2, a3] (vR r :: st) mem := ke_aload_n rfl dL_law_1265
theorem eL_law_1265x : ev X m_law 1265 [a0, vX r, a2, a3] st mem = ev X m_law 1266 [a0, vX r, a2, a3] (vX r :: st) mem := ke_xload_n rfl dL_law_1265
theorem eL_law_1266 : ev X m_law 1266 [a0, a1, a2, a3] (vR r :: []) mem = evc X (gR mem r 4 (ev X m_X4_clear 0 [vR r, vS] [] mem)) m_law 1269 [a0, a1, a2, a3] [] := ke_callV (m' := m_X4_clear) (as := []) (n := 0) (rest := []) dL_law_1266 rfl rfl rfl rfl rfl rfl (Nat.le_of_ble_eq_true rfl) (Nat.le_of_ble_eq_true rfl) (Nat.le_of_ble_eq_true rfl) rfl
theorem eL_law_1269 : ev X m_law 1269 [a0, a1, vR r, a3] st mem = ev X m_law 1270 [a0, a1, vR r, a3] (vR r :: st) mem := ke_aload_n rfl dL_law_1269
theorem eL_law_1269x : ev X m_law 1269 [a0, a1, vX r, a3] st mem = ev X m_law 1270 [a0, a1, vX r, a3] (vX r :: st) mem := ke_xload_n rfl dL_law_1269
theorem eL_law_1270 : ev X m_law 1270 [a0, a1, a2, a3] (vR r :: [s0]) mem = evc X (gR mem r 5 (ev X m_X5_clear 0 [vR r, vS] [] mem)) m_law 1273 [a0, a1, a2, a3] [s0] := ke_callV (m' := m_X5_clear) (as := []) (n := 0) (rest := [s0]) dL_law_1270 rfl rfl rfl rfl rfl rfl (Nat.le_of_ble_eq_true rfl) (Nat.le_of_ble_eq_true rfl) (Nat.le_of_ble_eq_true rfl) rfl
theorem eL_law_1273 : ev X m_law 1273 [a0, a1, a2, a3] (vI y :: vI x :: st) mem = if x = y then ev X m_law 1370 [a0, a1, a2, a3] st mem else ev X m_law 1276 [a0, a1, a2, a3] st mem := ke_icmp_eq dL_law_1273 rfl
theorem eL_law_1276 : ev X m_law 1276 [a0, a1, a2, a3] st mem = ev X m_law 1277 [a0, a1, a2, a3] (vI 0 :: st) mem := ke_iconst (by decide) dL_law_1276
theorem eL_law_1277a : ev X m_law 1277 [a0, a1, a2, a3] [vI 1] mem = some (some (vI 1), mem) := ke_zreturn dL_law_1277 rfl rfl
theorem eL_law_1277b : ev X m_law 1277 [a0, a1, a2, a3] [vI 0] mem = some (some (vI 0), mem) := ke_zreturn dL_law_1277 rfl rfl
theorem eL_law_1277c {c : Prop} [Decidable c] : ev X m_law 1277 [a0, a1, a2, a3] [vI (if c then 1 else 0)] mem = some (some (vI (if c then 1 else 0)), mem) := ke_zreturn dL_law_1277 rfl (by split <;> rfl)
theorem eL_law_1278 : ev X m_law 1278 [a0, vR r, a2, a3] st mem = ev X m_law 1279 [a0, vR r, a2, a3] (vR r :: st) mem := ke_aload_n rfl dL_law_1278
theorem eL_law_1278x : ev X m_law 1278 [a0, vX r, a2, a3] st mem = ev X m_law 1279 [a0, vX r, a2, a3] (vX r :: st) mem := ke_xload_n rfl dL_law_1278
theorem eL_law_1279 : ev X m_law 1279 [vR r, a1, a2, a3] st mem = ev X m_law 1280 [vR r, a1, a2, a3] (vR r :: st) mem := ke_aload_n rfl dL_law_1279
theorem eL_law_1279x : ev X m_law 1279 [vX r, a1, a2, a3] st mem = ev X m_law 1280 [vX r, a1, a2, a3] (vX r :: st) mem := ke_xload_n rfl dL_law_1279
theorem eL_law_1280 : ev X m_law 1280 [a0, a1, a2, vI x] st mem = ev X m_law 1281 [a0, a1, a2, vI x] (vI x :: st) mem := ke_iload_n rfl dL_law_1280
theorem eL_law_1281 : ev X m_law 1281 [a0, a1, a2, a3] st mem = ev X m_law 1282 [a0, a1, a2, a3] (vI 1 :: st) mem := ke_iconst (by decide) dL_law_1281
theorem eL_law_1282 : ev X m_law 1282 [a0, a1, a2, a3] (vI y :: vI x :: st) mem = ev X m_law 1283 [a0, a1, a2, a3] (vI (w32 (x + y)) :: st) mem := ke_iadd dL_law_1282
theorem eL_law_1283 : ev X m_law 1283 [a0, a1, a2, a3] (vI x :: vX 0 :: st) mem = evb X (sget X x) m_law 1284 [a0, a1, a2, a3] st mem := ke_saload dL_law_1283
theorem eL_law_1284 : ev X m_law 1284 [vR r, a1, a2, a3] st mem = ev X m_law 1285 [vR r, a1, a2, a3] (vR r :: st) mem := ke_aload_n rfl dL_law_1284
theorem eL_law_1284x : ev X m_law 1284 [vX r, a1, a2, a3] st mem = ev X m_law 1285 [vX r, a1, a2, a3] (vX r :: st) mem := ke_xload_n rfl dL_law_1284
theorem eL_law_1285 : ev X m_law 1285 [a0, a1, a2, vI x] st mem = ev X m_law 1286 [a0, a1, a2, vI x] (vI x :: st) mem := ke_iload_n rfl dL_law_1285
theorem eL_law_1286 : ev X m_law 1286 [a0, a1, a2, a3] st mem = ev X m_law 1287 [a0, a1, a2, a3] (vI 2 :: st) mem := ke_iconst (by decide) dL_law_1286
theorem eL_law_1287 : ev X m_law 1287 [a0, a1, a2, a3] (vI y :: vI x :: st) mem = ev X m_law 1288 [a0, a1, a2, a3] (vI (w32 (x + y)) :: st) mem := ke_iadd dL_law_1287
theorem eL_law_1288 : ev X m_law 1288 [a0, a1, a2, a3] (vI x :: vX 0 :: st) mem = evb X (sget X x) m_law 1289 [a0, a1, a2, a3] st mem := ke_saload dL_law_1288
theorem eL_law_1289 : ev X m_law 1289 [vR r, a1, a2, a3] st mem = ev X m_law 1290 [vR r, a1, a2, a3] (vR r :: st) mem := ke_aload_n rfl dL_law_1289
theorem eL_law_1289x : ev X m_law 1289 [vX r, a1, a2, a3] st mem = ev X m_law 1290 [vX r, a1, a2, a3] (vX r :: st) mem := ke_xload_n rfl dL_law_1289
theorem eL_law_1290 : ev X m_law 1290 [a0, a1, a2, vI x] st mem = ev X m_law 1291 [a0, a1, a2, vI x] (vI x :: st) mem := ke_iload_n rfl dL_law_1290
theorem eL_law_1291 : ev X m_law 1291 [a0, a1, a2, a3] st mem = ev X m_law 1292 [a0, a1, a2, a3] (vI 3 :: st) mem := ke_iconst (by decide) dL_law_1291
theorem eL_law_1292 : ev X m_law 1292 [a0, a1, a2, a3] (vI y :: vI x :: st) mem = ev X m_law 1293 [a0, a1, a2, a3] (vI (w32 (x + y)) :: st) mem := ke_iadd dL_law_1292
theorem eL_law_1293 : ev X m_law 1293 [a0, a1, a2, a3] (vI x :: vX 0 :: st) mem = evb X (sget X x) m_law 1294 [a0, a1, a2, a3] st mem := ke_saload dL_law_1293
theorem eL_law_1294 : ev X m_law 1294 [a0, a1, a2, a3] (vI n2 :: vI n1 :: vI n0 :: vR r :: []) mem = evc X (gR mem r 4 (ev X m_X4_lots 0 [vR r, vI n0, vI n1, vI n2] [] mem)) m_law 1297 [a0, a1, a2, a3] [] := ke_callV (m' := m_X4_lots) (as := [vI n0, vI n1, vI n2]) (n := 3) (rest := []) dL_law_1294 rfl rfl rfl rfl rfl rfl (Nat.le_of_ble_eq_true rfl) (Nat.le_of_ble_eq_true rfl) (Nat.le_of_ble_eq_true rfl) rfl
theorem eL_law_1297 : ev X m_law 1297 [a0, a1, vR r, a3] st mem = ev X m_law 1298 [a0, a1, vR r, a3] (vR r :: st) mem := ke_aload_n rfl dL_law_1297
theorem eL_law_1297x : ev X m_law 1297 [a0, a1, vX r, a3] st mem = ev X m_law 1298 [a0, a1, vX r, a3] (vX r :: st) mem := ke_xload_n rfl dL_law_1297
theorem eL_law_1298 : ev X m_law 1298 [vR r, a1, a2, a3] st mem = ev X m_law 1299 [vR r, a1, a2, a3] (vR r :: st) mem := ke_aload_n rfl dL_law_1298
theorem eL_law_1298x : ev X m_law 1298 [vX r, a1, a2, a3] st mem = ev X m_law 1299 [vX r, a1, a2, a3] (vX r :: st) mem := ke_xload_n rfl dL_law_1298
theorem eL_law_1299 : ev X m_law 1299 [a0, a1, a2, vI x] st mem = ev X m_law 1300 [a0, a1, a2, vI x] (vI x :: st) mem := ke_iload_n rfl dL_law_1299
theorem eL_law_1300 : ev X m_law 1300 [a0, a1, a2, a3] st mem = ev X m_law 1301 [a0, a1, a2, a3] (vI 1 :: st) mem := ke_iconst (by decide) dL_law_1300
theorem eL_law_1301 : ev X m_law 1301 [a0, a1, a2, a3] (vI y :: vI x :: st) mem = ev X m_law 1302 [a0, a1, a2, a3] (vI (w32 (x + y)) :: st) mem := ke_iadd dL_law_1301
theorem eL_law_1302 : ev X m_law 1302 [a0, a1, a2, a3] (vI x :: vX 0 :: st) mem = evb X (sget X x) m_law 1303 [a0, a1, a2, a3] st mem := ke_saload dL_law_1302
theorem eL_law_1303 : ev X m_law 1303 [vR r, a1, a2, a3] st mem = ev X m_law 1304 [vR r, a1, a2, a3] (vR r :: st) mem := ke_aload_n rfl dL_law_1303
theorem eL_law_1303x : ev X m_law 1303 [vX r, a1, a2, a3] st mem = ev X m_law 1304 [vX r, a1, a2, a3] (vX r :: st) mem := ke_xload_n rfl dL_law_1303
theorem eL_law_1304 : ev X m_law 1304 [a0, a1, a2, vI x] st mem = ev X m_law 1305 [a0, a1, a2, vI x] (vI x :: st) mem := ke_iload_n rfl dL_law_1304
theorem eL_law_1305 : ev X m_law 1305 [a0, a1, a2, a3] st mem = ev X m_law 1306 [a0, a1, a2, a3] (vI 2 :: st) mem := ke_iconst (by decide) dL_law_1305
theorem eL_law_1306 : ev X m_law 1306 [a0, a1, a2, a3] (vI y :: vI x :: st) mem = ev X m_law 1307 [a0, a1, a2, a3] (vI (w32 (x + y)) :: st) mem := ke_iadd dL_law_1306
theorem eL_law_1307 : ev X m_law 1307 [a0, a1, a2, a3] (vI x :: vX 0 :: st) mem = evb X (sget X x) m_law 1308 [a0, a1, a2, a3] st mem := ke_saload dL_law_1307
theorem eL_law_1308 : ev X m_law 1308 [vR r, a1, a2, a3] st mem = ev X m_law 1309 [vR r, a1, a2, a3] (vR r :: st) mem := ke_aload_n rfl dL_law_1308
theorem eL_law_1308x : ev X m_law 1308 [vX r, a1, a2, a3] st mem = ev X m_law 1309 [vX r, a1, a2, a3] (vX r :: st) mem := ke_xload_n rfl dL_law_1308
theorem eL_law_1309 : ev X m_law 1309 [a0, a1, a2, vI x] st mem = ev X m_law 1310 [a0, a1, a2, vI x] (vI x :: st) mem := ke_iload_n rfl dL_law_1309
theorem eL_law_1310 : ev X m_law 1310 [a0, a1, a2, a3] st mem = ev X m_law 1311 [a0, a1, a2, a3] (vI 3 :: st) mem := ke_iconst (by decide) dL_law_1310
theorem eL_law_1311 : ev X m_law 1311 [a0, a1, a2, a3] (vI y :: vI x :: st) mem = ev X m_law 1312 [a0, a1, a2, a3] (vI (w32 (x + y)) :: st) mem := ke_iadd dL_law_1311
theorem eL_law_1312 : ev X m_law 1312 [a0, a1, a2, a3] (vI x :: vX 0 :: st) mem = evb X (sget X x) m_law 1313 [a0, a1, a2, a3] st mem := ke_saload dL_law_1312
theorem eL_law_1313 : ev X m_law 1313 [a0, a1, a2, a3] (vI n2 :: vI n1 :: vI n0 :: vR r :: [s0]) mem = evc X (gR mem r 5 (ev X m_X5_lots 0 [vR r, vI n0, vI n1, vI n2, vS, vS, vS, vS, vS] [] mem)) m_law 1316 [a0, a1, a2, a3] [s0] := ke_callV (m' := m_X5_lots) (as := [vI n0, vI n1, vI n2]) (n := 3) (rest := [s0]) dL_law_1313 rfl rfl rfl rfl rfl rfl (Nat.le_of_ble_eq_true rfl) (Nat.le_of_ble_eq_true rfl) (Nat.le_of_ble_eq_true rfl) rfl
theorem eL_law_1316 : ev X m_law 1316 [a0, a1, a2, a3] (vI y :: vI x :: st) mem = if x = y then ev X m_law 1370 [a0, a1, a2, a3] st mem else ev X m_law 1319 [a0, a1, a2, a3] st mem := ke_icmp_eq dL_law_1316 rfl
theorem eL_law_1319 : ev X m_law 1319 [a0, a1, a2, a3] st mem = ev X m_law 1320 [a0, a1, a2, a3] (vI 0 :: st) mem := ke_iconst (by decide) dL_law_1319
theorem eL_law_1320a : ev X m_law 1320 [a0, a1, a2, a3] [vI 1] mem = some (some (vI 1), mem) := ke_zreturn dL_law_1320 rfl rfl
theorem eL_law_1320b : ev X m_law 1320 [a0, a1, a2, a3] [vI 0] mem = some (some (vI 0), mem) := ke_zreturn dL_law_1320 rfl rfl
theorem eL_law_1320c {c : Prop} [Decidable c] : ev X m_law 1320 [a0, a1, a2, a3] [vI (if c then 1 else 0)] mem = some (some (vI (if c then 1 else 0)), mem) := ke_zreturn dL_law_1320 rfl (by split <;> rfl)
theorem eL_law_1321 : ev X m_law 1321 [a0, vR r, a2, a3] st mem = ev X m_law 1322 [a0, vR r, a2, a3] (vR r :: st) mem := ke_aload_n rfl dL_law_1321
theorem eL_law_1321x : ev X m_law 1321 [a0, vX r, a2, a3] st mem = ev X m_law 1322 [a0, vX r, a2, a3] (vX r :: st) mem := ke_xload_n rfl dL_law_1321
theorem eL_law_1322 : ev X m_law 1322 [a0, a1, a2, a3] (vR r :: []) mem = evc X (gR mem r 4 (ev X m_X4_image 0 [vR r] [] mem)) m_law 1325 [a0, a1, a2, a3] [] := ke_callV (m' := m_X4_image) (as := []) (n := 0) (rest := []) dL_law_1322 rfl rfl rfl rfl rfl rfl (Nat.le_of_ble_eq_true rfl) (Nat.le_of_ble_eq_true rfl) (Nat.le_of_ble_eq_true rfl) rfl
theorem eL_law_1325 : ev X m_law 1325 [a0, a1, vR r, a3] st mem = ev X m_law 1326 [a0, a1, vR r, a3] (vR r :: st) mem := ke_aload_n rfl dL_law_1325
theorem eL_law_1325x : ev X m_law 1325 [a0, a1, vX r, a3] st mem = ev X m_law 1326 [a0, a1, vX r, a3] (vX r :: st) mem := ke_xload_n rfl dL_law_1325
theorem eL_law_1326 : ev X m_law 1326 [a0, a1, a2, a3] (vR r :: [s0]) mem = evc X (gR mem r 5 (ev X m_X5_image 0 [vR r] [] mem)) m_law 1329 [a0, a1, a2, a3] [s0] := ke_callV (m' := m_X5_image) (as := []) (n := 0) (rest := [s0]) dL_law_1326 rfl rfl rfl rfl rfl rfl (Nat.le_of_ble_eq_true rfl) (Nat.le_of_ble_eq_true rfl) (Nat.le_of_ble_eq_true rfl) rfl
theorem eL_law_1329 : ev X m_law 1329 [a0, a1, a2, a3] (vI y :: vI x :: st) mem = if x = y then ev X m_law 1370 [a0, a1, a2, a3] st mem else ev X m_law 1332 [a0, a1, a2, a3] st mem := ke_icmp_eq dL_law_1329 rfl
theorem eL_law_1332 : ev X m_law 1332 [a0, a1, a2, a3] st mem = ev X m_law 1333 [a0, a1, a2, a3] (vI 0 :: st) mem := ke_iconst (by decide) dL_law_1332
theorem eL_law_1333a : ev X m_law 1333 [a0, a1, a2, a3] [vI 1] mem = some (some (vI 1), mem) := ke_zreturn dL_law_1333 rfl rfl
theorem eL_law_1333b : ev X m_law 1333 [a0, a1, a2, a3] [vI 0] mem = some (some (vI 0), mem) := ke_zreturn dL_law_1333 rfl rfl
theorem eL_law_1333c {c : Prop} [Decidable c] : ev X m_law 1333 [a0, a1, a2, a3] [vI (if c then 1 else 0)] mem = some (some (vI (if c then 1 else 0)), mem) := ke_zreturn dL_law_1333 rfl (by split <;> rfl)
theorem eL_law_1334 : ev X m_law 1334 [a0, vR r, a2, a3] st mem = ev X m_law 1335 [a0, vR r, a2, a3] (vR r :: st) mem := ke_aload_n rfl dL_law_1334
theorem eL_law_1334x : ev X m_law 1334 [a0, vX r, a2, a3] st mem = ev X m_law 1335 [a0, vX r, a2, a3] (vX r :: st) mem := ke_xload_n rfl dL_law_1334
theorem eL_law_1335 : ev X m_law 1335 [a0, a1, a2, a3] (vR r :: []) mem = evc X (gR mem r 4 (ev X m_X4_on 0 [vR r] [] mem)) m_law 1338 [a0, a1, a2, a3] [] := ke_callV (m' := m_X4_on) (as := []) (n := 0) (rest := []) dL_law_1335 rfl rfl rfl rfl rfl rfl (Nat.le_of_ble_eq_true rfl) (Nat.le_of_ble_eq_true rfl) (Nat.le_of_ble_eq_true rfl) rfl
theorem eL_law_1338 : ev X m_law 1338 [a0, a1, vR r, a3] st mem = ev X m_law 1339 [a0, a1, vR r, a3] (vR r :: st) mem := ke_aload_n rfl dL_law_1338
theorem eL_law_1338x : ev X m_law 1338 [a0, a1, vX r, a3] st mem = ev X m_law 1339 [a0, a1, vX r, a3] (vX r :: st) mem := ke_xload_n rfl dL_law_1338
theorem eL_law_1339 : ev X m_law 1339 [a0, a1, a2, a3] (vR r :: [s0]) mem = evc X (gR mem r 5 (ev X m_X5_on 0 [vR r] [] mem)) m_law 1342 [a0, a1, a2, a3] [s0] := ke_callV (m' := m_X5_on) (as := []) (n := 0) (rest := [s0]) dL_law_1339 rfl rfl rfl rfl rfl rfl (Nat.le_of_ble_eq_true rfl) (Nat.le_of_ble_eq_true rfl) (Nat.le_of_ble_eq_true rfl) rfl
theorem eL_law_1342 : ev X m_law 1342 [a0, a1, a2, a3] (vI y :: vI x :: st) mem = if x = y then ev X m_law 1370 [a0, a1, a2, a3] st mem else ev X m_law 1345 [a0, a1, a2, a3] st mem := ke_icmp_eq dL_law_1342 rfl
theorem eL_law_1345 : ev X m_law 1345 [a0, a1, a2, a3] st mem = ev X m_law 1346 [a0, a1, a2, a3] (vI 0 :: st) mem := ke_iconst (by decide) dL_law_1345
theorem eL_law_1346a : ev X m_law 1346 [a0, a1, a2, a3] [vI 1] mem = some (some (vI 1), mem) := ke_zreturn dL_law_1346 rfl rfl
theorem eL_law_1346b : ev X m_law 1346 [a0, a1, a2, a3] [vI 0] mem = some (some (vI 0), mem) := ke_zreturn dL_law_1346 rfl rfl
theorem eL_law_1346c {c : Prop} [Decidable c] : ev X m_law 1346 [a0, a1, a2, a3] [vI (if c then 1 else 0)] mem = some (some (vI (if c then 1 else 0)), mem) := ke_zreturn dL_law_1346 rfl (by split <;> rfl)
theorem eL_law_1347 : ev X m_law 1347 [a0, vR r, a2, a3] st mem = ev X m_law 1348 [a0, vR r, a2, a3] (vR r :: st) mem := ke_aload_n rfl dL_law_1347
theorem eL_law_1347x : ev X m_law 1347 [a0, vX r, a2, a3] st mem = ev X m_law 1348 [a0, vX r, a2, a3] (vX r :: st) mem := ke_xload_n rfl dL_law_1347
theorem eL_law_1348 : ev X m_law 1348 [vR r, a1, a2, a3] st mem = ev X m_law 1349 [vR r, a1, a2, a3] (vR r :: st) mem := ke_aload_n rfl dL_law_1348
theorem eL_law_1348x : ev X m_law 1348 [vX r, a1, a2, a3] st mem = ev X m_law 1349 [vX r, a1, a2, a3] (vX r :: st) mem := ke_xload_n rfl dL_law_1348
theorem eL_law_1349 : ev X m_law 1349 [a0, a1, a2, vI x] st mem = ev X m_law 1350 [a0, a1, a2, vI x] (vI x :: st) mem := ke_iload_n rfl dL_law_1349
theorem eL_law_1350 : ev X m_law 1350 [a0, a1, a2, a3] st mem = ev X m_law 1351 [a0, a1, a2, a3] (vI 1 :: st) mem := ke_iconst (by decide) dL_law_1350
theorem eL_law_1351 : ev X m_law 1351 [a0, a1, a2, a3] (vI y :: vI x :: st) mem = ev X m_law 1352 [a0, a1, a2, a3] (vI (w32 (x + y)) :: st) mem := ke_iadd dL_law_1351
theorem eL_law_1352 : ev X m_law 1352 [a0, a1, a2, a3] (vI x :: vX 0 :: st) mem = evb X (sget X x) m_law 1353 [a0, a1, a2, a3] st mem := ke_saload dL_law_1352
theorem eL_law_1353 : ev X m_law 1353 [a0, a1, a2, a3] (vI n0 :: vR r :: []) mem = evc X (gR mem r 4 (ev X m_X4_count 0 [vR r, vI n0] [] mem)) m_law 1356 [a0, a1, a2, a3] [] := ke_callV (m' := m_X4_count) (as := [vI n0]) (n := 1) (rest := []) dL_law_1353 rfl rfl rfl rfl rfl rfl (Nat.le_of_ble_eq_true rfl) (Nat.le_of_ble_eq_true rfl) (Nat.le_of_ble_eq_true rfl) rfl
theorem eL_law_1356 : ev X m_law 1356 [a0, a1, vR r, a3] st mem = ev X m_law 1357 [a0, a1, vR r, a3] (vR r :: st) mem := ke_aload_n rfl dL_law_1356
theorem eL_law_1356x : ev X m_law 1356 [a0, a1, vX r, a3] st mem = ev X m_law 1357 [a0, a1, vX r, a3] (vX r :: st) mem := ke_xload_n rfl dL_law_1356
theorem eL_law_1357 : ev X m_law 1357 [vR r, a1, a2, a3] st mem = ev X m_law 1358 [vR r, a1, a2, a3] (vR r :: st) mem := ke_aload_n rfl dL_law_1357
theorem eL_law_1357x : ev X m_law 1357 [vX r, a1, a2, a3] st mem = ev X m_law 1358 [vX r, a1, a2, a3] (vX r :: st) mem := ke_xload_n rfl dL_law_1357
theorem eL_law_1358 : ev X m_law 1358 [a0, a1, a2, vI x] st mem = ev X m_law 1359 [a0, a1, a2, vI x] (vI x :: st) mem := ke_iload_n rfl dL_law_1358
theorem eL_law_1359 : ev X m_law 1359 [a0, a1, a2, a3] st mem = ev X m_law 1360 [a0, a1, a2, a3] (vI 1 :: st) mem := ke_iconst (by decide) dL_law_1359
theorem eL_law_1360 : ev X m_law 1360 [a0, a1, a2, a3] (vI y :: vI x :: st) mem = ev X m_law 1361 [a0, a1, a2, a3] (vI (w32 (x + y)) :: st) mem := ke_iadd dL_law_1360
theorem eL_law_1361 : ev X m_law 1361 [a0, a1, a2, a3] (vI x :: vX 0 :: st) mem = evb X (sget X x) m_law 1362 [a0, a1, a2, a3] st mem := ke_saload dL_law_1361
theorem eL_law_1362 : ev X m_law 1362 [a0, a1, a2, a3] (vI n0 :: vR r :: [s0]) mem = evc X (gR mem r 5 (ev X m_X5_count 0 [vR r, vI n0] [] mem)) m_law 1365 [a0, a1, a2, a3] [s0] := ke_callV (m' := m_X5_count) (as := [vI n0]) (n := 1) (rest := [s0]) dL_law_1362 rfl rfl rfl rfl rfl rfl (Nat.le_of_ble_eq_true rfl) (Nat.le_of_ble_eq_true rfl) (Nat.le_of_ble_eq_true rfl) rfl
theorem eL_law_1365 : ev X m_law 1365 [a0, a1, a2, a3] (vI y :: vI x :: st) mem = if x = y then ev X m_law 1370 [a0, a1, a2, a3] st mem else ev X m_law 1368 [a0, a1, a2, a3] st mem := ke_icmp_eq dL_law_1365 rfl
theorem eL_law_1368 : ev X m_law 1368 [a0, a1, a2, a3] st mem = ev X m_law 1369 [a0, a1, a2, a3] (vI 0 :: st) mem := ke_iconst (by decide) dL_law_1368
theorem eL_law_1369a : ev X m_law 1369 [a0, a1, a2, a3] [vI 1] mem = some (some (vI 1), mem) := ke_zreturn dL_law_1369 rfl rfl
theorem eL_law_1369b : ev X m_law 1369 [a0, a1, a2, a3] [vI 0] mem = some (some (vI 0), mem) := ke_zreturn dL_law_1369 rfl rfl
theorem eL_law_1369c {c : Prop} [Decidable c] : ev X m_law 1369 [a0, a1, a2, a3] [vI (if c then 1 else 0)] mem = some (some (vI (if c then 1 else 0)), mem) := ke_zreturn dL_law_1369 rfl (by split <;> rfl)
theorem eL_law_1370 : ev X m_law 1370 [a0, a1, a2, vI x] st mem = ev X m_law 1373 [a0, a1, a2, vI (w32 (x + 5))] st mem := ke_iinc rfl (Nat.le_of_ble_eq_true rfl) rfl dL_law_1370
theorem eL_law_1373 : ev X m_law 1373 [a0, a1, a2, a3] st mem = ev X m_law 18 [a0, a1, a2, a3] st mem := ke_goto dL_law_1373 rfl
theorem eL_law_1376 : ev X m_law 1376 [a0, a1, a2, a3] st mem = ev X m_law 1377 [a0, a1, a2, a3] (vI 1 :: st) mem := ke_iconst (by decide) dL_law_1376
theorem eL_law_1377a : ev X m_law 1377 [a0, a1, a2, a3] [vI 1] mem = some (some (vI 1), mem) := ke_zreturn dL_law_1377 rfl rfl
theorem eL_law_1377b : ev X m_law 1377 [a0, a1, a2, a3] [vI 0] mem = some (some (vI 0), mem) := ke_zreturn dL_law_1377 rfl rfl
theorem eL_law_1377c {c : Prop} [Decidable c] : ev X m_law 1377 [a0, a1, a2, a3] [vI (if c then 1 else 0)] mem = some (some (vI (if c then 1 else 0)), mem) := ke_zreturn dL_law_1377 rfl (by split <;> rfl)
end ELEM
