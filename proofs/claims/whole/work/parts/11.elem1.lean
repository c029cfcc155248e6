section ELEM
variable {X : List Int} {a0 a1 a2 a3 a4 a5 a6 a7 a8 a9 a10 a11 a12 a13 : AV} {st : List AV} {mem : AM} {x y n0 n1 n2 n3 n4 n5 n6 : Int} {s0 s1 s2 s3 : AV} {r r0 r1 r2 r3 r4 r5 : Nat}
theorem eX4_letter_0 : ev X m_X4_letter 0 [a0, vI x] st mem = ev X m_X4_letter 1 [a0, vI x] (vI x :: st) mem := ke_iload_n rfl dX4_letter_0
theorem eX4_letter_1 : ev X m_X4_letter 1 [a0, a1] (vI x :: st) mem = if x < 0 then ev X m_X4_letter 4 [a0, a1] st mem else ev X m_X4_letter 11 [a0, a1] st mem := ke_if_ge dX4_letter_1 rfl
theorem eX4_letter_4 : ev X m_X4_letter 4 [vR r, a1] st mem = ev X m_X4_letter 5 [vR r, a1] (vR r :: st) mem := ke_aload_n rfl dX4_letter_4
theorem eX4_letter_5 : ev X m_X4_letter 5 [a0, a1] st mem = ev X m_X4_letter 7 [a0, a1] (vI (-4) :: st) mem := ke_bipush (by decide) dX4_letter_5
theorem eX4_letter_7 : ev X m_X4_letter 7 [a0, a1] (vI n0 :: vR r :: []) mem = evc X (gR mem r 4 (ev X m_X4_refuse 0 [vR r, vI n0] [] mem)) m_X4_letter 10 [a0, a1] [] := ke_callV (m' := m_X4_refuse) (as := [vI n0]) (n := 1) (rest := []) dX4_letter_7 rfl rfl rfl rfl rfl rfl (Nat.le_of_ble_eq_true rfl) (Nat.le_of_ble_eq_true rfl) (Nat.le_of_ble_eq_true rfl) rfl
theorem eX4_letter_10 : ev X m_X4_letter 10 [a0, a1] [vI x] mem = some (some (vI x), mem) := ke_ireturn dX4_letter_10 rfl
theorem eX4_letter_11 : ev X m_X4_letter 11 [a0, vI x] st mem = ev X m_X4_letter 12 [a0, vI x] (vI x :: st) mem := ke_iload_n rfl dX4_letter_11
theorem eX4_letter_12 : ev X m_X4_letter 12 [a0, a1] st mem = ev X m_X4_letter 15 [a0, a1] (vI 255 :: st) mem := ke_sipush (by decide) dX4_letter_12
theorem eX4_letter_15 : ev X m_X4_letter 15 [a0, a1] (vI y :: vI x :: st) mem = if y < x then ev X m_X4_letter 30 [a0, a1] st mem else ev X m_X4_letter 18 [a0, a1] st mem := ke_icmp_gt dX4_letter_15 rfl
theorem eX4_letter_18 : ev X m_X4_letter 18 [vR r, a1] st mem = ev X m_X4_letter 19 [vR r, a1] (vR r :: st) mem := ke_aload_n rfl dX4_letter_18
theorem eX4_letter_19 : ev X m_X4_letter 19 [a0, a1] (vR r :: st) mem = evb X (fget mem r 4 4) m_X4_letter 22 [a0, a1] st mem := ke_getf rfl dX4_letter_19
theorem eX4_letter_22 : ev X m_X4_letter 22 [a0, a1] (vR r :: st) mem = evb X (fget mem r 2 0) m_X4_letter 25 [a0, a1] st mem := ke_getf rfl dX4_letter_22
theorem eX4_letter_25 : ev X m_X4_letter 25 [a0, a1] st mem = ev X m_X4_letter 27 [a0, a1] (vI 96 :: st) mem := ke_bipush (by decide) dX4_letter_25
theorem eX4_letter_27 : ev X m_X4_letter 27 [a0, a1] (vI y :: vI x :: st) mem = if x < y then ev X m_X4_letter 37 [a0, a1] st mem else ev X m_X4_letter 30 [a0, a1] st mem := ke_icmp_lt dX4_letter_27 rfl
theorem eX4_letter_30 : ev X m_X4_letter 30 [vR r, a1] st mem = ev X m_X4_letter 31 [vR r, a1] (vR r :: st) mem := ke_aload_n rfl dX4_letter_30
theorem eX4_letter_31 : ev X m_X4_letter 31 [a0, a1] st mem = ev X m_X4_letter 33 [a0, a1] (vI (-6) :: st) mem := ke_bipush (by decide) dX4_letter_31
theorem eX4_letter_33 : ev X m_X4_letter 33 [a0, a1] (vI n0 :: vR r :: []) mem = evc X (gR mem r 4 (ev X m_X4_refuse 0 [vR r, vI n0] [] mem)) m_X4_letter 36 [a0, a1] [] := ke_callV (m' := m_X4_refuse) (as := [vI n0]) (n := 1) (rest := []) dX4_letter_33 rfl rfl rfl rfl rfl rfl (Nat.le_of_ble_eq_true rfl) (Nat.le_of_ble_eq_true rfl) (Nat.le_of_ble_eq_true rfl) rfl
theorem eX4_letter_36 : ev X m_X4_letter 36 [a0, a1] [vI x] mem = some (some (vI x), mem) := ke_ireturn dX4_letter_36 rfl
theorem eX4_letter_37 : ev X m_X4_letter 37 [vR r, a1] st mem = ev X m_X4_letter 38 [vR r, a1] (vR r :: st) mem := ke_aload_n rfl dX4_letter_37
theorem eX4_letter_38 : ev X m_X4_letter 38 [a0, a1] (vR r :: st) mem = evb X (fget mem r 4 4) m_X4_letter 41 [a0, a1] st mem := ke_getf rfl dX4_letter_38
theorem eX4_letter_41 : ev X m_X4_letter 41 [a0, vI x] st mem = ev X m_X4_letter 42 [a0, vI x] (vI x :: st) mem := ke_iload_n rfl dX4_letter_41
theorem eX4_letter_42 : ev X m_X4_letter 42 [a0, a1] (vI n0 :: vR r :: []) mem = evc X (gR mem r 2 (ev X m_X2_add 0 [vR r, vI n0] [] mem)) m_X4_letter 45 [a0, a1] [] := ke_callV (m' := m_X2_add) (as := [vI n0]) (n := 1) (rest := []) dX4_letter_42 rfl rfl rfl rfl rfl rfl (Nat.le_of_ble_eq_true rfl) (Nat.le_of_ble_eq_true rfl) (Nat.le_of_ble_eq_true rfl) rfl
theorem eX4_letter_45 : ev X m_X4_letter 45 [vR r, a1] st mem = ev X m_X4_letter 46 [vR r, a1] (vR r :: st) mem := ke_aload_n rfl dX4_letter_45
theorem eX4_letter_46 : ev X m_X4_letter 46 [a0, a1] (vR r :: st) mem = evb X (fget mem r 4 4) m_X4_letter 49 [a0, a1] st mem := ke_getf rfl dX4_letter_46
theorem eX4_letter_49 : ev X m_X4_letter 49 [a0, a1] (vR r :: st) mem = evb X (fget mem r 2 0) m_X4_letter 52 [a0, a1] st mem := ke_getf rfl dX4_letter_49
theorem eX4_letter_52 : ev X m_X4_letter 52 [a0, a1] [vI x] mem = some (some (vI x), mem) := ke_ireturn dX4_letter_52 rfl
theorem eX4_refuse_0 : ev X m_X4_refuse 0 [a0, vI x] st mem = ev X m_X4_refuse 1 [a0, vI x] (vI x :: st) mem := ke_iload_n rfl dX4_refuse_0
theorem eX4_refuse_1 : ev X m_X4_refuse 1 [a0, a1] (vI x :: st) mem = if x < 0 then ev X m_X4_refuse 4 [a0, a1] st mem else ev X m_X4_refuse 21 [a0, a1] st mem := ke_if_ge dX4_refuse_1 rfl
theorem eX4_refuse_4 : ev X m_X4_refuse 4 [a0, vI x] st mem = ev X m_X4_refuse 5 [a0, vI x] (vI x :: st) mem := ke_iload_n rfl dX4_refuse_4
theorem eX4_refuse_5 : ev X m_X4_refuse 5 [a0, a1] st mem = ev X m_X4_refuse 7 [a0, a1] (vI (-6) :: st) mem := ke_bipush (by decide) dX4_refuse_5
theorem eX4_refuse_7 : ev X m_X4_refuse 7 [a0, a1] (vI y :: vI x :: st) mem = if x < y then ev X m_X4_refuse 21 [a0, a1] st mem else ev X m_X4_refuse 10 [a0, a1] st mem := ke_icmp_lt dX4_refuse_7 rfl
theorem eX4_refuse_10 : ev X m_X4_refuse 10 [vR r, a1] st mem = ev X m_X4_refuse 11 [vR r, a1] (vR r :: st) mem := ke_aload_n rfl dX4_refuse_10
theorem eX4_refuse_11 : ev X m_X4_refuse 11 [a0, a1] (vR r :: st) mem = evb X (fget mem r 4 6) m_X4_refuse 14 [a0, a1] st mem := ke_getf rfl dX4_refuse_11
theorem eX4_refuse_14 : ev X m_X4_refuse 14 [a0, vI x] st mem = ev X m_X4_refuse 15 [a0, vI x] (vI x :: st) mem := ke_iload_n rfl dX4_refuse_14
theorem eX4_refuse_15 : ev X m_X4_refuse 15 [a0, a1] (vI x :: st) mem = ev X m_X4_refuse 16 [a0, a1] (vI (w32 (-x)) :: st) mem := ke_ineg dX4_refuse_15
theorem eX4_refuse_16 : ev X m_X4_refuse 16 [a0, a1] (vI x :: vR r :: st) mem = ev X m_X4_refuse 17 [a0, a1] (vI x :: vR r :: vI x :: vR r :: st) mem := ke_dup2 dX4_refuse_16
theorem eX4_refuse_17 : ev X m_X4_refuse 17 [a0, a1] (vI x :: vR r :: st) mem = evb X (aget mem r x) m_X4_refuse 18 [a0, a1] st mem := ke_iaload dX4_refuse_17
theorem eX4_refuse_18 : ev X m_X4_refuse 18 [a0, a1] st mem = ev X m_X4_refuse 19 [a0, a1] (vI 1 :: st) mem := ke_iconst (by decide) dX4_refuse_18
theorem eX4_refuse_19 : ev X m_X4_refuse 19 [a0, a1] (vI y :: vI x :: st) mem = ev X m_X4_refuse 20 [a0, a1] (vI (w32 (x + y)) :: st) mem := ke_iadd dX4_refuse_19
theorem eX4_refuse_20 : ev X m_X4_refuse 20 [a0, a1] (vI y :: vI x :: vR r :: st) mem = evm X (aput mem r x y) m_X4_refuse 21 [a0, a1] st := ke_iastore dX4_refuse_20
theorem eX4_refuse_21 : ev X m_X4_refuse 21 [a0, vI x] st mem = ev X m_X4_refuse 22 [a0, vI x] (vI x :: st) mem := ke_iload_n rfl dX4_refuse_21
theorem eX4_refuse_22 : ev X m_X4_refuse 22 [a0, a1] [vI x] mem = some (some (vI x), mem) := ke_ireturn dX4_refuse_22 rfl
theorem eX2_add_0 : ev X m_X2_add 0 [vR r, a1] st mem = ev X m_X2_add 1 [vR r, a1] (vR r :: st) mem := ke_aload_n rfl dX2_add_0
theorem eX2_add_0x : ev X m_X2_add 0 [vX r, a1] st mem = ev X m_X2_add 1 [vX r, a1] (vX r :: st) mem := ke_xload_n rfl dX2_add_0
theorem eX2_add_1 : ev X m_X2_add 1 [a0, a1] (vR r :: st) mem = evb X (fget mem r 2 0) m_X2_add 4 [a0, a1] st mem := ke_getf rfl dX2_add_1
theorem eX2_add_4 : ev X m_X2_add 4 [a0, a1] (vI x :: st) mem = if x < 0 then ev X m_X2_add 39 [a0, a1] st mem else ev X m_X2_add 7 [a0, a1] st mem := ke_if_lt dX2_add_4 rfl
theorem eX2_add_7 : ev X m_X2_add 7 [vR r, a1] st mem = ev X m_X2_add 8 [vR r, a1] (vR r :: st) mem := ke_aload_n rfl dX2_add_7
theorem eX2_add_7x : ev X m_X2_add 7 [vX r, a1] st mem = ev X m_X2_add 8 [vX r, a1] (vX r :: st) mem := ke_xload_n rfl dX2_add_7
theorem eX2_add_8 : ev X m_X2_add 8 [a0, a1] (vR r :: st) mem = evb X (fget mem r 2 0) m_X2_add 11 [a0, a1] st mem := ke_getf rfl dX2_add_8
theorem eX2_add_11 : ev X m_X2_add 11 [vR r, a1] st mem = ev X m_X2_add 12 [vR r, a1] (vR r :: st) mem := ke_aload_n rfl dX2_add_11
theorem eX2_add_11x : ev X m_X2_add 11 [vX r, a1] st mem = ev X m_X2_add 12 [vX r, a1] (vX r :: st) mem := ke_xload_n rfl dX2_add_11
theorem eX2_add_12 : ev X m_X2_add 12 [a0, a1] (vR r :: st) mem = evb X (fget mem r 2 1) m_X2_add 15 [a0, a1] st mem := ke_getf rfl dX2_add_12
theorem eX2_add_15x : ev X m_X2_add 15 [a0, a1] (vX r :: st) mem = evb X (xlen X r) m_X2_add 16 [a0, a1] st mem := ke_xlen dX2_add_15
theorem eX2_add_15 : ev X m_X2_add 15 [a0, a1] (vR r :: st) mem = evb X (alen mem r) m_X2_add 16 [a0, a1] st mem := ke_alen dX2_add_15
theorem eX2_add_16 : ev X m_X2_add 16 [a0, a1] (vI y :: vI x :: st) mem = if x < y then ev X m_X2_add 19 [a0, a1] st mem else ev X m_X2_add 39 [a0, a1] st mem := ke_icmp_ge dX2_add_16 rfl
theorem eX2_add_19 : ev X m_X2_add 19 [vR r, a1] st mem = ev X m_X2_add 20 [vR r, a1] (vR r :: st) mem := ke_aload_n rfl dX2_add_19
theorem eX2_add_19x : ev X m_X2_add 19 [vX r, a1] st mem = ev X m_X2_add 20 [vX r, a1] (vX r :: st) mem := ke_xload_n rfl dX2_add_19
theorem eX2_add_20 : ev X m_X2_add 20 [a0, a1] (vR r :: st) mem = evb X (fget mem r 2 1) m_X2_add 23 [a0, a1] st mem := ke_getf rfl dX2_add_20
theorem eX2_add_23 : ev X m_X2_add 23 [vR r, a1] st mem = ev X m_X2_add 24 [vR r, a1] (vR r :: st) mem := ke_aload_n rfl dX2_add_23
theorem eX2_add_23x : ev X m_X2_add 23 [vX r, a1] st mem = ev X m_X2_add 24 [vX r, a1] (vX r :: st) mem := ke_xload_n rfl dX2_add_23
theorem eX2_add_24 : ev X m_X2_add 24 [a0, a1] (vR r :: st) mem = evb X (fget mem r 2 0) m_X2_add 27 [a0, a1] st mem := ke_getf rfl dX2_add_24
theorem eX2_add_27 : ev X m_X2_add 27 [a0, vI x] st mem = ev X m_X2_add 28 [a0, vI x] (vI x :: st) mem := ke_iload_n rfl dX2_add_27
theorem eX2_add_28 : ev X m_X2_add 28 [a0, a1] (vI y :: vI x :: vR r :: st) mem = evm X (aput mem r x y) m_X2_add 29 [a0, a1] st := ke_iastore dX2_add_28
theorem eX2_add_29 : ev X m_X2_add 29 [vR r, a1] st mem = ev X m_X2_add 30 [vR r, a1] (vR r :: st) mem := ke_aload_n rfl dX2_add_29
theorem eX2_add_29x : ev X m_X2_add 29 [vX r, a1] st mem = ev X m_X2_add 30 [vX r, a1] (vX r :: st) mem := ke_xload_n rfl dX2_add_29
theorem eX2_add_30 : ev X m_X2_add 30 [a0, a1] (vI x :: st) mem = ev X m_X2_add 31 [a0, a1] (vI x :: vI x :: st) mem := ke_dupI dX2_add_30
theorem eX2_add_30r : ev X m_X2_add 30 [a0, a1] (vR r :: st) mem = ev X m_X2_add 31 [a0, a1] (vR r :: vR r :: st) mem := ke_dupR dX2_add_30
theorem eX2_add_31 : ev X m_X2_add 31 [a0, a1] (vR r :: st) mem = evb X (fget mem r 2 0) m_X2_add 34 [a0, a1] st mem := ke_getf rfl dX2_add_31
theorem eX2_add_34 : ev X m_X2_add 34 [a0, a1] st mem = ev X m_X2_add 35 [a0, a1] (vI 1 :: st) mem := ke_iconst (by decide) dX2_add_34
theorem eX2_add_35 : ev X m_X2_add 35 [a0, a1] (vI y :: vI x :: st) mem = ev X m_X2_add 36 [a0, a1] (vI (w32 (x + y)) :: st) mem := ke_iadd dX2_add_35
theorem eX2_add_36 : ev X m_X2_add 36 [a0, a1] (vI x :: vR r :: st) mem = evm X (fput mem r 2 0 (vI x)) m_X2_add 39 [a0, a1] st := ke_putf rfl (by decide +kernel) dX2_add_36
theorem eX2_add_39 : ev X m_X2_add 39 [a0, a1] [] mem = some (none, mem) := ke_return dX2_add_39 rfl
theorem eX4_duchy_0 : ev X m_X4_duchy 0 [vR r, a1, a2, a3, a4, a5] st mem = ev X m_X4_duchy 1 [vR r, a1, a2, a3, a4, a5] (vR r :: st) mem := ke_aload_n rfl dX4_duchy_0
theorem eX4_duchy_1 : ev X m_X4_duchy 1 [a0, a1, a2, a3, a4, a5] (vR r :: st) mem = evb X (fget mem r 4 4) m_X4_duchy 4 [a0, a1, a2, a3, a4, a5] st mem := ke_getf rfl dX4_duchy_1
theorem eX4_duchy_4 : ev X m_X4_duchy 4 [a0, a1, a2, a3, a4, a5] (vR r :: []) mem = evc X (gR mem r 2 (ev X m_X2_firstMisfit 0 [vR r, vS, vS, vS] [] mem)) m_X4_duchy 7 [a0, a1, a2, a3, a4, a5] [] := ke_callV (m' := m_X2_firstMisfit) (as := []) (n := 0) (rest := []) dX4_duchy_4 rfl rfl rfl rfl rfl rfl (Nat.le_of_ble_eq_true rfl) (Nat.le_of_ble_eq_true rfl) (Nat.le_of_ble_eq_true rfl) rfl
theorem eX4_duchy_7 : ev X m_X4_duchy 7 [a0, a1, a2, a3, a4, a5] (vI x :: st) mem = ev X m_X4_duchy 8 [a0, vI x, a2, a3, a4, a5] st mem := ke_istore_n (Nat.le_of_ble_eq_true rfl) rfl dX4_duchy_7
theorem eX4_duchy_8 : ev X m_X4_duchy 8 [vR r, a1, a2, a3, a4, a5] st mem = ev X m_X4_duchy 9 [vR r, a1, a2, a3, a4, a5] (vR r :: st) mem := ke_aload_n rfl dX4_duchy_8
theorem eX4_duchy_9 : ev X m_X4_duchy 9 [a0, a1, a2, a3, a4, a5] (vR r :: st) mem = evb X (fget mem r 4 3) m_X4_duchy 12 [a0, a1, a2, a3, a4, a5] st mem := ke_getf rfl dX4_duchy_9
theorem eX4_duchy_12 : ev X m_X4_duchy 12 [vR r, a1, a2, a3, a4, a5] st mem = ev X m_X4_duchy 13 [vR r, a1, a2, a3, a4, a5] (vR r :: st) mem := ke_aload_n rfl dX4_duchy_12
theorem eX4_duchy_13 : ev X m_X4_duchy 13 [a0, a1, a2, a3, a4, a5] (vR r :: st) mem = evb X (fget mem r 4 0) m_X4_duchy 16 [a0, a1, a2, a3, a4, a5] st mem := ke_getf rfl dX4_duchy_13
theorem eX4_duchy_16 : ev X m_X4_duchy 16 [a0, a1, a2, a3, a4, a5] st mem = ev X m_X4_duchy 17 [a0, a1, a2, a3, a4, a5] (vI 0 :: st) mem := ke_iconst (by decide) dX4_duchy_16
theorem eX4_duchy_17 : ev X m_X4_duchy 17 [a0, a1, a2, a3, a4, a5] (vI n1 :: vR r0 :: vR r :: []) mem = evc X (gR mem r 3 (ev X m_X3_behind 0 [vR r, vR r0, vI n1] [] mem)) m_X4_duchy 20 [a0, a1, a2, a3, a4, a5] [] := ke_callV (m' := m_X3_behind) (as := [vR r0, vI n1]) (n := 2) (rest := []) dX4_duchy_17 rfl rfl rfl rfl rfl rfl (Nat.le_of_ble_eq_true rfl) (Nat.le_of_ble_eq_true rfl) (Nat.le_of_ble_eq_true rfl) rfl
theorem eX4_duchy_20 : ev X m_X4_duchy 20 [a0, a1, a2, a3, a4, a5] (vR r :: st) mem = ev X m_X4_duchy 21 [a0, a1, vR r, a3, a4, a5] st mem := ke_astore_n (Nat.le_of_ble_eq_true rfl) rfl dX4_duchy_20
theorem eX4_duchy_21 : ev X m_X4_duchy 21 [a0, a1, a2, a3, a4, a5] st mem = ev X m_X4_duchy 22 [a0, a1, a2, a3, a4, a5] (vI 0 :: st) mem := ke_iconst (by decide) dX4_duchy_21
theorem eX4_duchy_22 : ev X m_X4_duchy 22 [a0, a1, a2, a3, a4, a5] (vI x :: st) mem = ev X m_X4_duchy 23 [a0, a1, a2, vI x, a4, a5] st mem := ke_istore_n (Nat.le_of_ble_eq_true rfl) rfl dX4_duchy_22
theorem eX4_duchy_23 : ev X m_X4_duchy 23 [a0, a1, a2, a3, a4, a5] st mem = ev X m_X4_duchy 24 [a0, a1, a2, a3, a4, a5] (vI 0 :: st) mem := ke_iconst (by decide) dX4_duchy_23
theorem eX4_duchy_24 : ev X m_X4_duchy 24 [a0, a1, a2, a3, a4, a5] (vI x :: st) mem = ev X m_X4_duchy 26 [a0, a1, a2, a3, vI x, a5] st mem := ke_istore (Nat.le_of_ble_eq_true rfl) rfl dX4_duchy_24
theorem eX4_duchy_26 : ev X m_X4_duchy 26 [a0, vI x, a2, a3, a4, a5] st mem = ev X m_X4_duchy 27 [a0, vI x, a2, a3, a4, a5] (vI x :: st) mem := ke_iload_n rfl dX4_duchy_26
theorem eX4_duchy_27 : ev X m_X4_duchy 27 [a0, a1, a2, a3, a4, a5] (vI x :: st) mem = if x < 0 then ev X m_X4_duchy 30 [a0, a1, a2, a3, a4, a5] st mem else ev X m_X4_duchy 79 [a0, a1, a2, a3, a4, a5] st mem := ke_if_ge dX4_duchy_27 rfl
theorem eX4_duchy_30 : ev X m_X4_duchy 30 [a0, a1, a2, a3, vI x, a5] st mem = ev X m_X4_duchy 32 [a0, a1, a2, a3, vI x, a5] (vI x :: st) mem := ke_iload rfl dX4_duchy_30
theorem eX4_duchy_32 : ev X m_X4_duchy 32 [vR r, a1, a2, a3, a4, a5] st mem = ev X m_X4_duchy 33 [vR r, a1, a2, a3, a4, a5] (vR r :: st) mem := ke_aload_n rfl dX4_duchy_32
theorem eX4_duchy_33 : ev X m_X4_duchy 33 [a0, a1, a2, a3, a4, a5] (vR r :: st) mem = evb X (fget mem r 4 4) m_X4_duchy 36 [a0, a1, a2, a3, a4, a5] st mem := ke_getf rfl dX4_duchy_33
theorem eX4_duchy_36 : ev X m_X4_duchy 36 [a0, a1, a2, a3, a4, a5] (vR r :: st) mem = evb X (fget mem r 2 0) m_X4_duchy 39 [a0, a1, a2, a3, a4, a5] st mem := ke_getf rfl dX4_duchy_36
theorem eX4_duchy_39 : ev X m_X4_duchy 39 [a0, a1, a2, a3, a4, a5] (vI y :: vI x :: st) mem = if x < y then ev X m_X4_duchy 42 [a0, a1, a2, a3, a4, a5] st mem else ev X m_X4_duchy 79 [a0, a1, a2, a3, a4, a5] st mem := ke_icmp_ge dX4_duchy_39 rfl
theorem eX4_duchy_42 : ev X m_X4_duchy 42 [vR r, a1, a2, a3, a4, a5] st mem = ev X m_X4_duchy 43 [vR r, a1, a2, a3, a4, a5] (vR r :: st) mem := ke_aload_n rfl dX4_duchy_42
theorem eX4_duchy_43 : ev X m_X4_duchy 43 [a0, a1, a2, a3, a4, a5] (vR r :: st) mem = evb X (fget mem r 4 4) m_X4_duchy 46 [a0, a1, a2, a3, a4, a5] st mem := ke_getf rfl dX4_duchy_43
theorem eX4_duchy_46 : ev X m_X4_duchy 46 [a0, a1, a2, a3, vI x, a5] st mem = ev X m_X4_duchy 48 [a0, a1, a2, a3, vI x, a5] (vI x :: st) mem := ke_iload rfl dX4_duchy_46
theorem eX4_duchy_48 : ev X m_X4_duchy 48 [a0, a1, vR r, a3, a4, a5] st mem = ev X m_X4_duchy 49 [a0, a1, vR r, a3, a4, a5] (vR r :: st) mem := ke_aload_n rfl dX4_duchy_48
theorem eX4_duchy_49 : ev X m_X4_duchy 49 [a0, a1, a2, a3, a4, a5] (vR r1 :: vI n0 :: vR r :: []) mem = evc X (gR mem r 2 (ev X m_X2_tell 0 [vR r, vI n0, vR r1, vS, vS] [] mem)) m_X4_duchy 52 [a0, a1, a2, a3, a4, a5] [] := ke_callV (m' := m_X2_tell) (as := [vI n0, vR r1]) (n := 2) (rest := []) dX4_duchy_49 rfl rfl rfl rfl rfl rfl (Nat.le_of_ble_eq_true rfl) (Nat.le_of_ble_eq_true rfl) (Nat.le_of_ble_eq_true rfl) rfl
theorem eX4_duchy_52 : ev X m_X4_duchy 52 [a0, a1, a2, a3, a4, a5] (vI x :: st) mem = if x = 0 then ev X m_X4_duchy 79 [a0, a1, a2, a3, a4, a5] st mem else ev X m_X4_duchy 55 [a0, a1, a2, a3, a4, a5] st mem := ke_if_eq dX4_duchy_52 rfl
theorem eX4_duchy_55 : ev X m_X4_duchy 55 [a0, a1, a2, a3, vI x, a5] st mem = ev X m_X4_duchy 57 [a0, a1, a2, a3, vI x, a5] (vI x :: st) mem := ke_iload rfl dX4_duchy_55
theorem eX4_duchy_57 : ev X m_X4_duchy 57 [a0, a1, a2, a3, a4, a5] st mem = ev X m_X4_duchy 58 [a0, a1, a2, a3, a4, a5] (vI 1 :: st) mem := ke_iconst (by decide) dX4_duchy_57
theorem eX4_duchy_58 : ev X m_X4_duchy 58 [vR r, a1, a2, a3, a4, a5] st mem = ev X m_X4_duchy 59 [vR r, a1, a2, a3, a4, a5] (vR r :: st) mem := ke_aload_n rfl dX4_duchy_58
theorem eX4_duchy_59 : ev X m_X4_duchy 59 [a0, a1, a2, a3, a4, a5] (vR r :: st) mem = evb X (fget mem r 4 4) m_X4_duchy 62 [a0, a1, a2, a3, a4, a5] st mem := ke_getf rfl dX4_duchy_59
theorem eX4_duchy_62 : ev X m_X4_duchy 62 [a0, a1, a2, a3, vI x, a5] st mem = ev X m_X4_duchy 64 [a0, a1, a2, a3, vI x, a5] (vI x :: st) mem := ke_iload rfl dX4_duchy_62
theorem eX4_duchy_64 : ev X m_X4_duchy 64 [a0, a1, a2, a3, a4, a5] (vI n0 :: vR r :: [s0, s1]) mem = evc X (gR mem r 2 (ev X m_X2_lengthAt 0 [vR r, vI n0] [] mem)) m_X4_duchy 67 [a0, a1, a2, a3, a4, a5] [s0, s1] := ke_callV (m' := m_X2_lengthAt) (as := [vI n0]) (n := 1) (rest := [s0, s1]) dX4_duchy_64 rfl rfl rfl rfl rfl rfl (Nat.le_of_ble_eq_true rfl) (Nat.le_of_ble_eq_true rfl) (Nat.le_of_ble_eq_true rfl) rfl
theorem eX4_duchy_67 : ev X m_X4_duchy 67 [a0, a1, a2, a3, a4, a5] (vI y :: vI x :: [s0]) mem = ev X m_X4_duchy 70 [a0, a1, a2, a3, a4, a5] (vI (if x < y then y else x) :: [s0]) mem := ke_mmax rfl rfl rfl (Nat.le_of_ble_eq_true rfl) (Nat.le_of_ble_eq_true rfl) (Nat.le_of_ble_eq_true rfl) dX4_duchy_67
theorem eX4_duchy_70 : ev X m_X4_duchy 70 [a0, a1, a2, a3, a4, a5] (vI y :: vI x :: st) mem = ev X m_X4_duchy 71 [a0, a1, a2, a3, a4, a5] (vI (w32 (x + y)) :: st) mem := ke_iadd dX4_duchy_70
theorem eX4_duchy_71 : ev X m_X4_duchy 71 [a0, a1, a2, a3, a4, a5] (vI x :: st) mem = ev X m_X4_duchy 73 [a0, a1, a2, a3, vI x, a5] st mem := ke_istore (Nat.le_of_ble_eq_true rfl) rfl dX4_duchy_71
theorem eX4_duchy_73 : ev X m_X4_duchy 73 [a0, a1, a2, vI x, a4, a5] st mem = ev X m_X4_duchy 76 [a0, a1, a2, vI (w32 (x + 1)), a4, a5] st mem := ke_iinc rfl (Nat.le_of_ble_eq_true rfl) rfl dX4_duchy_73
theorem eX4_duchy_76 : ev X m_X4_duchy 76 [a0, a1, a2, a3, a4, a5] st mem = ev X m_X4_duchy 26 [a0, a1, a2, a3, a4, a5] st mem := ke_goto dX4_duchy_76 rfl
theorem eX4_duchy_79 : ev X m_X4_duchy 79 [a0, a1, a2, a3, vI x, a5] st mem = ev X m_X4_duchy 81 [a0, a1, a2, a3, vI x, a5] (vI x :: st) mem := ke_iload rfl dX4_duchy_79
theorem eX4_duchy_81 : ev X m_X4_duchy 81 [vR r, a1, a2, a3, a4, a5] st mem = ev X m_X4_duchy 82 [vR r, a1, a2, a3, a4, a5] (vR r :: st) mem := ke_aload_n rfl dX4_duchy_81
theorem eX4_duchy_82 : ev X m_X4_duchy 82 [a0, a1, a2, a3, a4, a5] (vR r :: st) mem = evb X (fget mem r 4 4) m_X4_duchy 85 [a0, a1, a2, a3, a4, a5] st mem := ke_getf rfl dX4_duchy_82
theorem eX4_duchy_85 : ev X m_X4_duchy 85 [a0, a1, a2, a3, a4, a5] (vR r :: st) mem = evb X (fget mem r 2 0) m_X4_duchy 88 [a0, a1, a2, a3, a4, a5] st mem := ke_getf rfl dX4_duchy_85
theorem eX4_duchy_88 : ev X m_X4_duchy 88 [a0, a1, a2, a3, a4, a5] (vI y :: vI x :: st) mem = if x < y then ev X m_X4_duchy 95 [a0, a1, a2, a3, a4, a5] st mem else ev X m_X4_duchy 91 [a0, a1, a2, a3, a4, a5] st mem := ke_icmp_lt dX4_duchy_88 rfl
theorem eX4_duchy_91 : ev X m_X4_duchy 91 [a0, a1, a2, a3, a4, a5] st mem = ev X m_X4_duchy 92 [a0, a1, a2, a3, a4, a5] (vI 1 :: st) mem := ke_iconst (by decide) dX4_duchy_91
theorem eX4_duchy_92 : ev X m_X4_duchy 92 [a0, a1, a2, a3, a4, a5] st mem = ev X m_X4_duchy 96 [a0, a1, a2, a3, a4, a5] st mem := ke_goto dX4_duchy_92 rfl
theorem eX4_duchy_95 : ev X m_X4_duchy 95 [a0, a1, a2, a3, a4, a5] st mem = ev X m_X4_duchy 96 [a0, a1, a2, a3, a4, a5] (vI 0 :: st) mem := ke_iconst (by decide) dX4_duchy_95
theorem eX4_duchy_96 : ev X m_X4_duchy 96 [a0, a1, a2, a3, a4, a5] (vI x :: st) mem = ev X m_X4_duchy 98 [a0, a1, a2, a3, a4, vI x] st mem := ke_istore (Nat.le_of_ble_eq_true rfl) rfl dX4_duchy_96
theorem eX4_duchy_98 : ev X m_X4_duchy 98 [vR r, a1, a2, a3, a4, a5] st mem = ev X m_X4_duchy 99 [vR r, a1, a2, a3, a4, a5] (vR r :: st) mem := ke_aload_n rfl dX4_duchy_98
theorem eX4_duchy_99 : ev X m_X4_duchy 99 [a0, a1, a2, a3, a4, a5] (vR r :: st) mem = evb X (fget mem r 4 4) m_X4_duchy 102 [a0, a1, a2, a3, a4, a5] st mem := ke_getf rfl dX4_duchy_99
theorem eX4_duchy_102 : ev X m_X4_duchy 102 [a0, a1, a2, a3, a4, a5] st mem = ev X m_X4_duchy 103 [a0, a1, a2, a3, a4, a5] (vI 0 :: st) mem := ke_iconst (by decide) dX4_duchy_102
theorem eX4_duchy_103 : ev X m_X4_duchy 103 [a0, a1, a2, a3, a4, a5] (vI x :: vR r :: st) mem = evm X (fput mem r 2 0 (vI x)) m_X4_duchy 106 [a0, a1, a2, a3, a4, a5] st := ke_putf rfl (by decide +kernel) dX4_duchy_103
theorem eX4_duchy_106 : ev X m_X4_duchy 106 [a0, vI x, a2, a3, a4, a5] st mem = ev X m_X4_duchy 107 [a0, vI x, a2, a3, a4, a5] (vI x :: st) mem := ke_iload_n rfl dX4_duchy_106
theorem eX4_duchy_107 : ev X m_X4_duchy 107 [a0, a1, a2, a3, a4, a5] (vI x :: st) mem = if x < 0 then ev X m_X4_duchy 116 [a0, a1, a2, a3, a4, a5] st mem else ev X m_X4_duchy 110 [a0, a1, a2, a3, a4, a5] st mem := ke_if_lt dX4_duchy_107 rfl
theorem eX4_duchy_110 : ev X m_X4_duchy 110 [a0, a1, a2, a3, a4, a5] st mem = ev X m_X4_duchy 113 [a0, a1, a2, a3, a4, a5] (vI (-1000) :: st) mem := ke_sipush (by decide) dX4_duchy_110
theorem eX4_duchy_113 : ev X m_X4_duchy 113 [a0, vI x, a2, a3, a4, a5] st mem = ev X m_X4_duchy 114 [a0, vI x, a2, a3, a4, a5] (vI x :: st) mem := ke_iload_n rfl dX4_duchy_113
theorem eX4_duchy_114 : ev X m_X4_duchy 114 [a0, a1, a2, a3, a4, a5] (vI y :: vI x :: st) mem = ev X m_X4_duchy 115 [a0, a1, a2, a3, a4, a5] (vI (w32 (x - y)) :: st) mem := ke_isub dX4_duchy_114
theorem eX4_duchy_115 : ev X m_X4_duchy 115 [a0, a1, a2, a3, a4, a5] [vI x] mem = some (some (vI x), mem) := ke_ireturn dX4_duchy_115 rfl
theorem eX4_duchy_116 : ev X m_X4_duchy 116 [a0, a1, a2, a3, a4, vI x] st mem = ev X m_X4_duchy 118 [a0, a1, a2, a3, a4, vI x] (vI x :: st) mem := ke_iload rfl dX4_duchy_116
theorem eX4_duchy_118 : ev X m_X4_duchy 118 [a0, a1, a2, a3, a4, a5] (vI x :: st) mem = if x = 0 then ev X m_X4_duchy 121 [a0, a1, a2, a3, a4, a5] st mem else ev X m_X4_duchy 128 [a0, a1, a2, a3, a4, a5] st mem := ke_if_ne dX4_duchy_118 rfl
theorem eX4_duchy_121 : ev X m_X4_duchy 121 [a0, a1, a2, a3, a4, a5] st mem = ev X m_X4_duchy 124 [a0, a1, a2, a3, a4, a5] (vI (-2000) :: st) mem := ke_sipush (by decide) dX4_duchy_121
theorem eX4_duchy_124 : ev X m_X4_duchy 124 [a0, a1, a2, a3, vI x, a5] st mem = ev X m_X4_duchy 126 [a0, a1, a2, a3, vI x, a5] (vI x :: st) mem := ke_iload rfl dX4_duchy_124
theorem eX4_duchy_126 : ev X m_X4_duchy 126 [a0, a1, a2, a3, a4, a5] (vI y :: vI x :: st) mem = ev X m_X4_duchy 127 [a0, a1, a2, a3, a4, a5] (vI (w32 (x - y)) :: st) mem := ke_isub dX4_duchy_126
theorem eX4_duchy_127 : ev X m_X4_duchy 127 [a0, a1, a2, a3, a4, a5] [vI x] mem = some (some (vI x), mem) := ke_ireturn dX4_duchy_127 rfl
theorem eX4_duchy_128 : ev X m_X4_duchy 128 [vR r, a1, a2, a3, a4, a5] st mem = ev X m_X4_duchy 129 [vR r, a1, a2, a3, a4, a5] (vR r :: st) mem := ke_aload_n rfl dX4_duchy_128
theorem eX4_duchy_129 : ev X m_X4_duchy 129 [a0, a1, a2, a3, a4, a5] (vR r :: st) mem = evb X (fget mem r 4 0) m_X4_duchy 132 [a0, a1, a2, a3, a4, a5] st mem := ke_getf rfl dX4_duchy_129
theorem eX4_duchy_132 : ev X m_X4_duchy 132 [a0, a1, vR r, a3, a4, a5] st mem = ev X m_X4_duchy 133 [a0, a1, vR r, a3, a4, a5] (vR r :: st) mem := ke_aload_n rfl dX4_duchy_132
theorem eX4_duchy_133 : ev X m_X4_duchy 133 [a0, a1, a2, a3, a4, a5] (vR r0 :: vR r :: []) mem = evc X (gR mem r 0 (ev X m_X0_become 0 [vR r, vR r0] [] mem)) m_X4_duchy 136 [a0, a1, a2, a3, a4, a5] [] := ke_callV (m' := m_X0_become) (as := [vR r0]) (n := 1) (rest := []) dX4_duchy_133 rfl rfl rfl rfl rfl rfl (Nat.le_of_ble_eq_true rfl) (Nat.le_of_ble_eq_true rfl) (Nat.le_of_ble_eq_true rfl) rfl
theorem eX4_duchy_136 : ev X m_X4_duchy 136 [a0, a1, a2, vI x, a4, a5] st mem = ev X m_X4_duchy 137 [a0, a1, a2, vI x, a4, a5] (vI x :: st) mem := ke_iload_n rfl dX4_duchy_136
theorem eX4_duchy_137 : ev X m_X4_duchy 137 [a0, a1, a2, a3, a4, a5] [vI x] mem = some (some (vI x), mem) := ke_ireturn dX4_duchy_137 rfl
theorem eX2_firstMisfit_0 : ev X m_X2_firstMisfit 0 [a0, a1, a2, a3] st mem = ev X m_X2_firstMisfit 1 [a0, a1, a2, a3] (vI 0 :: st) mem := ke_iconst (by decide) dX2_firstMisfit_0
theorem eX2_firstMisfit_1 : ev X m_X2_firstMisfit 1 [a0, a1, a2, a3] (vI x :: st) mem = ev X m_X2_firstMisfit 2 [a0, vI x, a2, a3] st mem := ke_istore_n (Nat.le_of_ble_eq_true rfl) rfl dX2_firstMisfit_1
theorem eX2_firstMisfit_2 : ev X m_X2_firstMisfit 2 [vR r, a1, a2, a3] st mem = ev X m_X2_firstMisfit 3 [vR r, a1, a2, a3] (vR r :: st) mem := ke_aload_n rfl dX2_firstMisfit_2
theorem eX2_firstMisfit_2x : ev X m_X2_firstMisfit 2 [vX r, a1, a2, a3] st mem = ev X m_X2_firstMisfit 3 [vX r, a1, a2, a3] (vX r :: st) mem := ke_xload_n rfl dX2_firstMisfit_2
theorem eX2_firstMisfit_3 : ev X m_X2_firstMisfit 3 [a0, vI x, a2, a3] st mem = ev X m_X2_firstMisfit 4 [a0, vI x, a2, a3] (vI x :: st) mem := ke_iload_n rfl dX2_firstMisfit_3
theorem eX2_firstMisfit_4 : ev X m_X2_firstMisfit 4 [a0, a1, a2, a3] (vI n0 :: vR r :: []) mem = evc X (gR mem r 2 (ev X m_X2_letterAt 0 [vR r, vI n0] [] mem)) m_X2_firstMisfit 7 [a0, a1, a2, a3] [] := ke_callV (m' := m_X2_letterAt) (as := [vI n0]) (n := 1) (rest := []) dX2_firstMisfit_4 rfl rfl rfl rfl rfl rfl (Nat.le_of_ble_eq_true rfl) (Nat.le_of_ble_eq_true rfl) (Nat.le_of_ble_eq_true rfl) rfl
theorem eX2_firstMisfit_7 : ev X m_X2_firstMisfit 7 [a0, a1, a2, a3] (vI n0 :: []) mem = evc X (ev X m_X2_formOf 0 [vI n0] [] mem) m_X2_firstMisfit 10 [a0, a1, a2, a3] [] := ke_callS (m' := m_X2_formOf) (as := [vI n0]) (n := 1) (rest := []) dX2_firstMisfit_7 rfl (by decide) rfl rfl rfl rfl rfl (Nat.le_of_ble_eq_true rfl) (Nat.le_of_ble_eq_true rfl) rfl
theorem eX2_firstMisfit_10 : ev X m_X2_firstMisfit 10 [a0, a1, a2, a3] (vR r :: st) mem = ev X m_X2_firstMisfit 11 [a0, a1, vR r, a3] st mem := ke_astore_n (Nat.le_of_ble_eq_true rfl) rfl dX2_firstMisfit_10
theorem eX2_firstMisfit_10x : ev X m_X2_firstMisfit 10 [a0, a1, a2, a3] (vX r :: st) mem = ev X m_X2_firstMisfit 11 [a0, a1, vX r, a3] st mem := ke_xstore_n (Nat.le_of_ble_eq_true rfl) rfl dX2_firstMisfit_10
theorem eX2_firstMisfit_11 : ev X m_X2_firstMisfit 11 [a0, a1, a2, a3] st mem = ev X m_X2_firstMisfit 12 [a0, a1, a2, a3] (vI 0 :: st) mem := ke_iconst (by decide) dX2_firstMisfit_11
theorem eX2_firstMisfit_12 : ev X m_X2_firstMisfit 12 [a0, a1, a2, a3] (vI x :: st) mem = ev X m_X2_firstMisfit 13 [a0, a1, a2, vI x] st mem := ke_istore_n (Nat.le_of_ble_eq_true rfl) rfl dX2_firstMisfit_12
theorem eX2_firstMisfit_13 : ev X m_X2_firstMisfit 13 [a0, a1, a2, vI x] st mem = ev X m_X2_firstMisfit 14 [a0, a1, a2, vI x] (vI x :: st) mem := ke_iload_n rfl dX2_firstMisfit_13
theorem eX2_firstMisfit_14 : ev X m_X2_firstMisfit 14 [a0, a1, vR r, a3] st mem = ev X m_X2_firstMisfit 15 [a0, a1, vR r, a3] (vR r :: st) mem := ke_aload_n rfl dX2_firstMisfit_14
theorem eX2_firstMisfit_14x : ev X m_X2_firstMisfit 14 [a0, a1, vX r, a3] st mem = ev X m_X2_firstMisfit 15 [a0, a1, vX r, a3] (vX r :: st) mem := ke_xload_n rfl dX2_firstMisfit_14
theorem eX2_firstMisfit_15 : ev X m_X2_firstMisfit 15 [a0, a1, a2, a3] (vX r :: [s0]) mem = evc X (gX r (ev X m_J0_length_8abf5 0 [vX r] [] mem)) m_X2_firstMisfit 18 [a0, a1, a2, a3] [s0] := ke_callX (m' := m_J0_length_8abf5) (as := []) (n := 0) (rest := [s0]) dX2_firstMisfit_15 rfl rfl rfl rfl rfl rfl (Nat.le_of_ble_eq_true rfl) (Nat.le_of_ble_eq_true rfl) rfl rfl
theorem eX2_firstMisfit_18 : ev X m_X2_firstMisfit 18 [a0, a1, a2, a3] (vI y :: vI x :: st) mem = if x < y then ev X m_X2_firstMisfit 21 [a0, a1, a2, a3] st mem else ev X m_X2_firstMisfit 49 [a0, a1, a2, a3] st mem := ke_icmp_ge dX2_firstMisfit_18 rfl
theorem eX2_firstMisfit_21 : ev X m_X2_firstMisfit 21 [a0, a1, vR r, a3] st mem = ev X m_X2_firstMisfit 22 [a0, a1, vR r, a3] (vR r :: st) mem := ke_aload_n rfl dX2_firstMisfit_21
theorem eX2_firstMisfit_21x : ev X m_X2_firstMisfit 21 [a0, a1, vX r, a3] st mem = ev X m_X2_firstMisfit 22 [a0, a1, vX r, a3] (vX r :: st) mem := ke_xload_n rfl dX2_firstMisfit_21
theorem eX2_firstMisfit_22 : ev X m_X2_firstMisfit 22 [a0, a1, a2, vI x] st mem = ev X m_X2_firstMisfit 23 [a0, a1, a2, vI x] (vI x :: st) mem := ke_iload_n rfl dX2_firstMisfit_22
theorem eX2_firstMisfit_23 : ev X m_X2_firstMisfit 23 [a0, a1, a2, a3] (vI n0 :: vX r :: []) mem = evc X (gX r (ev X m_J0_charAt_5068e 0 [vX r, vI n0] [] mem)) m_X2_firstMisfit 26 [a0, a1, a2, a3] [] := ke_callX (m' := m_J0_charAt_5068e) (as := [vI n0]) (n := 1) (rest := []) dX2_firstMisfit_23 rfl rfl rfl rfl rfl rfl (Nat.le_of_ble_eq_true rfl) (Nat.le_of_ble_eq_true rfl) rfl rfl
theorem eX2_firstMisfit_26 : ev X m_X2_firstMisfit 26 [vR r, a1, a2, a3] st mem = ev X m_X2_firstMisfit 27 [vR r, a1, a2, a3] (vR r :: st) mem := ke_aload_n rfl dX2_firstMisfit_26
theorem eX2_firstMisfit_26x : ev X m_X2_firstMisfit 26 [vX r, a1, a2, a3] st mem = ev X m_X2_firstMisfit 27 [vX r, a1, a2, a3] (vX r :: st) mem := ke_xload_n rfl dX2_firstMisfit_26
theorem eX2_firstMisfit_27 : ev X m_X2_firstMisfit 27 [a0, vI x, a2, a3] st mem = ev X m_X2_firstMisfit 28 [a0, vI x, a2, a3] (vI x :: st) mem := ke_iload_n rfl dX2_firstMisfit_27
theorem eX2_firstMisfit_28 : ev X m_X2_firstMisfit 28 [a0, a1, a2, vI x] st mem = ev X m_X2_firstMisfit 29 [a0, a1, a2, vI x] (vI x :: st) mem := ke_iload_n rfl dX2_firstMisfit_28
theorem eX2_firstMisfit_29 : ev X m_X2_firstMisfit 29 [a0, a1, a2, a3] (vI y :: vI x :: st) mem = ev X m_X2_firstMisfit 30 [a0, a1, a2, a3] (vI (w32 (x + y)) :: st) mem := ke_iadd dX2_firstMisfit_29
theorem eX2_firstMisfit_30 : ev X m_X2_firstMisfit 30 [a0, a1, a2, a3] (vI n0 :: vR r :: [s0]) mem = evc X (gR mem r 2 (ev X m_X2_letterAt 0 [vR r, vI n0] [] mem)) m_X2_firstMisfit 33 [a0, a1, a2, a3] [s0] := ke_callV (m' := m_X2_letterAt) (as := [vI n0]) (n := 1) (rest := [s0]) dX2_firstMisfit_30 rfl rfl rfl rfl rfl rfl (Nat.le_of_ble_eq_true rfl) (Nat.le_of_ble_eq_true rfl) (Nat.le_of_ble_eq_true rfl) rfl
theorem eX2_firstMisfit_33 : ev X m_X2_firstMisfit 33 [a0, a1, a2, a3] (vI n1 :: vI n0 :: []) mem = evc X (ev X m_X2_fits 0 [vI n0, vI n1] [] mem) m_X2_firstMisfit 36 [a0, a1, a2, a3] [] := ke_callS (m' := m_X2_fits) (as := [vI n0, vI n1]) (n := 2) (rest := []) dX2_firstMisfit_33 rfl (by decide) rfl rfl rfl rfl rfl (Nat.le_of_ble_eq_true rfl) (Nat.le_of_ble_eq_true rfl) rfl
theorem eX2_firstMisfit_36 : ev X m_X2_firstMisfit 36 [a0, a1, a2, a3] (vI x :: st) mem = if x = 0 then ev X m_X2_firstMisfit 39 [a0, a1, a2, a3] st mem else ev X m_X2_firstMisfit 43 [a0, a1, a2, a3] st mem := ke_if_ne dX2_firstMisfit_36 rfl
theorem eX2_firstMisfit_39 : ev X m_X2_firstMisfit 39 [a0, vI x, a2, a3] st mem = ev X m_X2_firstMisfit 40 [a0, vI x, a2, a3] (vI x :: st) mem := ke_iload_n rfl dX2_firstMisfit_39
theorem eX2_firstMisfit_40 : ev X m_X2_firstMisfit 40 [a0, a1, a2, vI x] st mem = ev X m_X2_firstMisfit 41 [a0, a1, a2, vI x] (vI x :: st) mem := ke_iload_n rfl dX2_firstMisfit_40
theorem eX2_firstMisfit_41 : ev X m_X2_firstMisfit 41 [a0, a1, a2, a3] (vI y :: vI x :: st) mem = ev X m_X2_firstMisfit 42 [a0, a1, a2, a3] (vI (w32 (x + y)) :: st) mem := ke_iadd dX2_firstMisfit_41
theorem eX2_firstMisfit_42 : ev X m_X2_firstMisfit 42 [a0, a1, a2, a3] [vI x] mem = some (some (vI x), mem) := ke_ireturn dX2_firstMisfit_42 rfl
theorem eX2_firstMisfit_43 : ev X m_X2_firstMisfit 43 [a0, a1, a2, vI x] st mem = ev X m_X2_firstMisfit 46 [a0, a1, a2, vI (w32 (x + 1))] st mem := ke_iinc rfl (Nat.le_of_ble_eq_true rfl) rfl dX2_firstMisfit_43
theorem eX2_firstMisfit_46 : ev X m_X2_firstMisfit 46 [a0, a1, a2, a3] st mem = ev X m_X2_firstMisfit 13 [a0, a1, a2, a3] st mem := ke_goto dX2_firstMisfit_46 rfl
theorem eX2_firstMisfit_49 : ev X m_X2_firstMisfit 49 [a0, vI x, a2, a3] st mem = ev X m_X2_firstMisfit 50 [a0, vI x, a2, a3] (vI x :: st) mem := ke_iload_n rfl dX2_firstMisfit_49
theorem eX2_firstMisfit_50 : ev X m_X2_firstMisfit 50 [a0, a1, a2, a3] st mem = ev X m_X2_firstMisfit 51 [a0, a1, a2, a3] (vI 1 :: st) mem := ke_iconst (by decide) dX2_firstMisfit_50
theorem eX2_firstMisfit_51 : ev X m_X2_firstMisfit 51 [a0, a1, vR r, a3] st mem = ev X m_X2_firstMisfit 52 [a0, a1, vR r, a3] (vR r :: st) mem := ke_aload_n rfl dX2_firstMisfit_51
theorem eX2_firstMisfit_51x : ev X m_X2_firstMisfit 51 [a0, a1, vX r, a3] st mem = ev X m_X2_firstMisfit 52 [a0, a1, vX r, a3] (vX r :: st) mem := ke_xload_n rfl dX2_firstMisfit_51
theorem eX2_firstMisfit_52 : ev X m_X2_firstMisfit 52 [a0, a1, a2, a3] (vX r :: [s0, s1]) mem = evc X (gX r (ev X m_J0_length_8abf5 0 [vX r] [] mem)) m_X2_firstMisfit 55 [a0, a1, a2, a3] [s0, s1] := ke_callX (m' := m_J0_length_8abf5) (as := []) (n := 0) (rest := [s0, s1]) dX2_firstMisfit_52 rfl rfl rfl rfl rfl rfl (Nat.le_of_ble_eq_true rfl) (Nat.le_of_ble_eq_true rfl) rfl rfl
theorem eX2_firstMisfit_55 : ev X m_X2_firstMisfit 55 [a0, a1, a2, a3] (vI y :: vI x :: [s0]) mem = ev X m_X2_firstMisfit 58 [a0, a1, a2, a3] (vI (if x < y then y else x) :: [s0]) mem := ke_mmax rfl rfl rfl (Nat.le_of_ble_eq_true rfl) (Nat.le_of_ble_eq_true rfl) (Nat.le_of_ble_eq_true rfl) dX2_firstMisfit_55
theorem eX2_firstMisfit_58 : ev X m_X2_firstMisfit 58 [a0, a1, a2, a3] (vI y :: vI x :: st) mem = ev X m_X2_firstMisfit 59 [a0, a1, a2, a3] (vI (w32 (x + y)) :: st) mem := ke_iadd dX2_firstMisfit_58
theorem eX2_firstMisfit_59 : ev X m_X2_firstMisfit 59 [a0, a1, a2, a3] (vI x :: st) mem = ev X m_X2_firstMisfit 60 [a0, vI x, a2, a3] st mem := ke_istore_n (Nat.le_of_ble_eq_true rfl) rfl dX2_firstMisfit_59
theorem eX2_firstMisfit_60 : ev X m_X2_firstMisfit 60 [a0, vI x, a2, a3] st mem = ev X m_X2_firstMisfit 61 [a0, vI x, a2, a3] (vI x :: st) mem := ke_iload_n rfl dX2_firstMisfit_60
theorem eX2_firstMisfit_61 : ev X m_X2_firstMisfit 61 [vR r, a1, a2, a3] st mem = ev X m_X2_firstMisfit 62 [vR r, a1, a2, a3] (vR r :: st) mem := ke_aload_n rfl dX2_firstMisfit_61
theorem eX2_firstMisfit_61x : ev X m_X2_firstMisfit 61 [vX r, a1, a2, a3] st mem = ev X m_X2_firstMisfit 62 [vX r, a1, a2, a3] (vX r :: st) mem := ke_xload_n rfl dX2_firstMisfit_61
theorem eX2_firstMisfit_62 : ev X m_X2_firstMisfit 62 [a0, a1, a2, a3] (vR r :: st) mem = evb X (fget mem r 2 0) m_X2_firstMisfit 65 [a0, a1, a2, a3] st mem := ke_getf rfl dX2_firstMisfit_62
theorem eX2_firstMisfit_65 : ev X m_X2_firstMisfit 65 [a0, a1, a2, a3] (vI y :: vI x :: st) mem = if x < y then ev X m_X2_firstMisfit 2 [a0, a1, a2, a3] st mem else ev X m_X2_firstMisfit 68 [a0, a1, a2, a3] st mem := ke_icmp_lt dX2_firstMisfit_65 rfl
theorem eX2_firstMisfit_68 : ev X m_X2_firstMisfit 68 [a0, a1, a2, a3] st mem = ev X m_X2_firstMisfit 69 [a0, a1, a2, a3] (vI (-1) :: st) mem := ke_iconst (by decide) dX2_firstMisfit_68
theorem eX2_firstMisfit_69 : ev X m_X2_firstMisfit 69 [a0, a1, a2, a3] [vI x] mem = some (some (vI x), mem) := ke_ireturn dX2_firstMisfit_69 rfl
theorem eX2_letterAt_0 : ev X m_X2_letterAt 0 [a0, vI x] st mem = ev X m_X2_letterAt 1 [a0, vI x] (vI x :: st) mem := ke_iload_n rfl dX2_letterAt_0
theorem eX2_letterAt_1 : ev X m_X2_letterAt 1 [a0, a1] (vI x :: st) mem = if x < 0 then ev X m_X2_letterAt 30 [a0, a1] st mem else ev X m_X2_letterAt 4 [a0, a1] st mem := ke_if_lt dX2_letterAt_1 rfl
theorem eX2_letterAt_4 : ev X m_X2_letterAt 4 [a0, vI x] st mem = ev X m_X2_letterAt 5 [a0, vI x] (vI x :: st) mem := ke_iload_n rfl dX2_letterAt_4
theorem eX2_letterAt_5 : ev X m_X2_letterAt 5 [vR r, a1] st mem = ev X m_X2_letterAt 6 [vR r, a1] (vR r :: st) mem := ke_aload_n rfl dX2_letterAt_5
theorem eX2_letterAt_5x : ev X m_X2_letterAt 5 [vX r, a1] st mem = ev X m_X2_letterAt 6 [vX r, a1] (vX r :: st) mem := ke_xload_n rfl dX2_letterAt_5
theorem eX2_letterAt_6 : ev X m_X2_letterAt 6 [a0, a1] (vR r :: st) mem = evb X (fget mem r 2 0) m_X2_letterAt 9 [a0, a1] st mem := ke_getf rfl dX2_letterAt_6
theorem eX2_letterAt_9 : ev X m_X2_letterAt 9 [a0, a1] (vI y :: vI x :: st) mem = if x < y then ev X m_X2_letterAt 12 [a0, a1] st mem else ev X m_X2_letterAt 30 [a0, a1] st mem := ke_icmp_ge dX2_letterAt_9 rfl
theorem eX2_letterAt_12 : ev X m_X2_letterAt 12 [a0, vI x] st mem = ev X m_X2_letterAt 13 [a0, vI x] (vI x :: st) mem := ke_iload_n rfl dX2_letterAt_12
theorem eX2_letterAt_13 : ev X m_X2_letterAt 13 [vR r, a1] st mem = ev X m_X2_letterAt 14 [vR r, a1] (vR r :: st) mem := ke_aload_n rfl dX2_letterAt_13
theorem eX2_letterAt_13x : ev X m_X2_letterAt 13 [vX r, a1] st mem = ev X m_X2_letterAt 14 [vX r, a1] (vX r :: st) mem := ke_xload_n rfl dX2_letterAt_13
theorem eX2_letterAt_14 : ev X m_X2_letterAt 14 [a0, a1] (vR r :: st) mem = evb X (fget mem r 2 1) m_X2_letterAt 17 [a0, a1] st mem := ke_getf rfl dX2_letterAt_14
theorem eX2_letterAt_17x : ev X m_X2_letterAt 17 [a0, a1] (vX r :: st) mem = evb X (xlen X r) m_X2_letterAt 18 [a0, a1] st mem := ke_xlen dX2_letterAt_17
theorem eX2_letterAt_17 : ev X m_X2_letterAt 17 [a0, a1] (vR r :: st) mem = evb X (alen mem r) m_X2_letterAt 18 [a0, a1] st mem := ke_alen dX2_letterAt_17
theorem eX2_letterAt_18 : ev X m_X2_letterAt 18 [a0, a1] (vI y :: vI x :: st) mem = if x < y then ev X m_X2_letterAt 21 [a0, a1] st mem else ev X m_X2_letterAt 30 [a0, a1] st mem := ke_icmp_ge dX2_letterAt_18 rfl
theorem eX2_letterAt_21 : ev X m_X2_letterAt 21 [vR r, a1] st mem = ev X m_X2_letterAt 22 [vR r, a1] (vR r :: st) mem := ke_aload_n rfl dX2_letterAt_21
theorem eX2_letterAt_21x : ev X m_X2_letterAt 21 [vX r, a1] st mem = ev X m_X2_letterAt 22 [vX r, a1] (vX r :: st) mem := ke_xload_n rfl dX2_letterAt_21
theorem eX2_letterAt_22 : ev X m_X2_letterAt 22 [a0, a1] (vR r :: st) mem = evb X (fget mem r 2 1) m_X2_letterAt 25 [a0, a1] st mem := ke_getf rfl dX2_letterAt_22
theorem eX2_letterAt_25 : ev X m_X2_letterAt 25 [a0, vI x] st mem = ev X m_X2_letterAt 26 [a0, vI x] (vI x :: st) mem := ke_iload_n rfl dX2_letterAt_25
theorem eX2_letterAt_26 : ev X m_X2_letterAt 26 [a0, a1] (vI x :: vR r :: st) mem = evb X (aget mem r x) m_X2_letterAt 27 [a0, a1] st mem := ke_iaload dX2_letterAt_26
theorem eX2_letterAt_27 : ev X m_X2_letterAt 27 [a0, a1] st mem = ev X m_X2_letterAt 31 [a0, a1] st mem := ke_goto dX2_letterAt_27 rfl
theorem eX2_letterAt_30 : ev X m_X2_letterAt 30 [a0, a1] st mem = ev X m_X2_letterAt 31 [a0, a1] (vI (-1) :: st) mem := ke_iconst (by decide) dX2_letterAt_30
theorem eX2_letterAt_31 : ev X m_X2_letterAt 31 [a0, a1] [vI x] mem = some (some (vI x), mem) := ke_ireturn dX2_letterAt_31 rfl
theorem eX2_formOf_0 : ev X m_X2_formOf 0 [vI x] st mem = ev X m_X2_formOf 1 [vI x] (vI x :: st) mem := ke_iload_n rfl dX2_formOf_0
theorem eX2_formOf_1 : ev X m_X2_formOf 1 [a0] (vI x :: st) mem = if x = 99 then ev X m_X2_formOf 90 [a0] st mem else if x = 100 then ev X m_X2_formOf 99 [a0] st mem else if x = 101 then ev X m_X2_formOf 102 [a0] st mem else if x = 102 then ev X m_X2_formOf 102 [a0] st mem else if x = 103 then ev X m_X2_formOf 102 [a0] st mem else if x = 104 then ev X m_X2_formOf 87 [a0] st mem else if x = 105 then ev X m_X2_formOf 102 [a0] st mem else if x = 106 then ev X m_X2_formOf 102 [a0] st mem else if x = 107 then ev X m_X2_formOf 102 [a0] st mem else if x = 108 then ev X m_X2_formOf 102 [a0] st mem else if x = 109 then ev X m_X2_formOf 96 [a0] st mem else if x = 110 then ev X m_X2_formOf 102 [a0] st mem else if x = 111 then ev X m_X2_formOf 102 [a0] st mem else if x = 112 then ev X m_X2_formOf 84 [a0] st mem else if x = 113 then ev X m_X2_formOf 102 [a0] st mem else if x = 114 then ev X m_X2_formOf 102 [a0] st mem else if x = 115 then ev X m_X2_formOf 93 [a0] st mem else ev X m_X2_formOf 102 [a0] st mem := by
  by_cases h0 : x = 99
  · subst h0; rw [if_pos rfl]; exact ke_swT dX2_formOf_1 (by decide) (by decide) (off := 89) rfl rfl
  rw [if_neg h0]
  by_cases h1 : x = 100
  · subst h1; rw [if_pos rfl]; exact ke_swT dX2_formOf_1 (by decide) (by decide) (off := 98) rfl rfl
  rw [if_neg h1]
  by_cases h2 : x = 101
  · subst h2; rw [if_pos rfl]; exact ke_swT dX2_formOf_1 (by decide) (by decide) (off := 101) rfl rfl
  rw [if_neg h2]
  by_cases h3 : x = 102
  · subst h3; rw [if_pos rfl]; exact ke_swT dX2_formOf_1 (by decide) (by decide) (off := 101) rfl rfl
  rw [if_neg h3]
  by_cases h4 : x = 103
  · subst h4; rw [if_pos rfl]; exact ke_swT dX2_formOf_1 (by decide) (by decide) (off := 101) rfl rfl
  rw [if_neg h4]
  by_cases h5 : x = 104
  · subst h5; rw [if_pos rfl]; exact ke_swT dX2_formOf_1 (by decide) (by decide) (off := 86) rfl rfl
  rw [if_neg h5]
  by_cases h6 : x = 105
  · subst h6; rw [if_pos rfl]; exact ke_swT dX2_formOf_1 (by decide) (by decide) (off := 101) rfl rfl
  rw [if_neg h6]
  by_cases h7 : x = 106
  · subst h7; rw [if_pos rfl]; exact ke_swT dX2_formOf_1 (by decide) (by decide) (off := 101) rfl rfl
  rw [if_neg h7]
  by_cases h8 : x = 107
  · subst h8; rw [if_pos rfl]; exact ke_swT dX2_formOf_1 (by decide) (by decide) (off := 101) rfl rfl
  rw [if_neg h8]
  by_cases h9 : x = 108
  · subst h9; rw [if_pos rfl]; exact ke_swT dX2_formOf_1 (by decide) (by decide) (off := 101) rfl rfl
  rw [if_neg h9]
  by_cases h10 : x = 109
  · subst h10; rw [if_pos rfl]; exact ke_swT dX2_formOf_1 (by decide) (by decide) (off := 95) rfl rfl
  rw [if_neg h10]
  by_cases h11 : x = 110
  · subst h11; rw [if_pos rfl]; exact ke_swT dX2_formOf_1 (by decide) (by decide) (off := 101) rfl rfl
  rw [if_neg h11]
  by_cases h12 : x = 111
  · subst h12; rw [if_pos rfl]; exact ke_swT dX2_formOf_1 (by decide) (by decide) (off := 101) rfl rfl
  rw [if_neg h12]
  by_cases h13 : x = 112
  · subst h13; rw [if_pos rfl]; exact ke_swT dX2_formOf_1 (by decide) (by decide) (off := 83) rfl rfl
  rw [if_neg h13]
  by_cases h14 : x = 113
  · subst h14; rw [if_pos rfl]; exact ke_swT dX2_formOf_1 (by decide) (by decide) (off := 101) rfl rfl
  rw [if_neg h14]
  by_cases h15 : x = 114
  · subst h15; rw [if_pos rfl]; exact ke_swT dX2_formOf_1 (by decide) (by decide) (off := 101) rfl rfl
  rw [if_neg h15]
  by_cases h16 : x = 115
  · subst h16; rw [if_pos rfl]; exact ke_swT dX2_formOf_1 (by decide) (by decide) (off := 92) rfl rfl
  rw [if_neg h16]
  exact ke_swD dX2_formOf_1 (by omega) rfl
theorem eX2_formOf_84 : ev X m_X2_formOf 84 [a0] st mem = ev X m_X2_formOf 86 [a0] (vX 1 :: st) mem := ke_ldcS rfl rfl dX2_formOf_84
theorem eX2_formOf_86 : ev X m_X2_formOf 86 [a0] [vR r] mem = some (some (vR r), mem) := ke_areturn dX2_formOf_86 rfl
theorem eX2_formOf_86x : ev X m_X2_formOf 86 [a0] [vX r] mem = some (some (vX r), mem) := ke_xreturn dX2_formOf_86 rfl
theorem eX2_formOf_87 : ev X m_X2_formOf 87 [a0] st mem = ev X m_X2_formOf 89 [a0] (vX 2 :: st) mem := ke_ldcS rfl rfl dX2_formOf_87
theorem eX2_formOf_89 : ev X m_X2_formOf 89 [a0] [vR r] mem = some (some (vR r), mem) := ke_areturn dX2_formOf_89 rfl
theorem eX2_formOf_89x : ev X m_X2_formOf 89 [a0] [vX r] mem = some (some (vX r), mem) := ke_xreturn dX2_formOf_89 rfl
theorem eX2_formOf_90 : ev X m_X2_formOf 90 [a0] st mem = ev X m_X2_formOf 92 [a0] (vX 3 :: st) mem := ke_ldcS rfl rfl dX2_formOf_90
theorem eX2_formOf_92 : ev X m_X2_formOf 92 [a0] [vR r] mem = some (some (vR r), mem) := ke_areturn dX2_formOf_92 rfl
theorem eX2_formOf_92x : ev X m_X2_formOf 92 [a0] [vX r] mem = some (some (vX r), mem) := ke_xreturn dX2_formOf_92 rfl
theorem eX2_formOf_93 : ev X m_X2_formOf 93 [a0] st mem = ev X m_X2_formOf 95 [a0] (vX 4 :: st) mem := ke_ldcS rfl rfl dX2_formOf_93
theorem eX2_formOf_95 : ev X m_X2_formOf 95 [a0] [vR r] mem = some (some (vR r), mem) := ke_areturn dX2_formOf_95 rfl
theorem eX2_formOf_95x : ev X m_X2_formOf 95 [a0] [vX r] mem = some (some (vX r), mem) := ke_xreturn dX2_formOf_95 rfl
theorem eX2_formOf_96 : ev X m_X2_formOf 96 [a0] st mem = ev X m_X2_formOf 98 [a0] (vX 5 :: st) mem := ke_ldcS rfl rfl dX2_formOf_96
theorem eX2_formOf_98 : ev X m_X2_formOf 98 [a0] [vR r] mem = some (some (vR r), mem) := ke_areturn dX2_formOf_98 rfl
theorem eX2_formOf_98x : ev X m_X2_formOf 98 [a0] [vX r] mem = some (some (vX r), mem) := ke_xreturn dX2_formOf_98 rfl
theorem eX2_formOf_99 : ev X m_X2_formOf 99 [a0] st mem = ev X m_X2_formOf 101 [a0] (vX 6 :: st) mem := ke_ldcS rfl rfl dX2_formOf_99
theorem eX2_formOf_101 : ev X m_X2_formOf 101 [a0] [vR r] mem = some (some (vR r), mem) := ke_areturn dX2_formOf_101 rfl
theorem eX2_formOf_101x : ev X m_X2_formOf 101 [a0] [vX r] mem = some (some (vX r), mem) := ke_xreturn dX2_formOf_101 rfl
theorem eX2_formOf_102 : ev X m_X2_formOf 102 [a0] st mem = ev X m_X2_formOf 104 [a0] (vX 7 :: st) mem := ke_ldcS rfl rfl dX2_formOf_102
theorem eX2_formOf_104 : ev X m_X2_formOf 104 [a0] [vR r] mem = some (some (vR r), mem) := ke_areturn dX2_formOf_104 rfl
theorem eX2_formOf_104x : ev X m_X2_formOf 104 [a0] [vX r] mem = some (some (vX r), mem) := ke_xreturn dX2_formOf_104 rfl
theorem eJ0_length_8abf5_0 : ev X m_J0_length_8abf5 0 [vR r] st mem = ev X m_J0_length_8abf5 1 [vR r] (vR r :: st) mem := ke_aload_n rfl dJ0_length_8abf5_0
theorem eJ0_length_8abf5_0x : ev X m_J0_length_8abf5 0 [vX r] st mem = ev X m_J0_length_8abf5 1 [vX r] (vX r :: st) mem := ke_xload_n rfl dJ0_length_8abf5_0
theorem eJ0_length_8abf5_1 : ev X m_J0_length_8abf5 1 [a0] (vX r :: st) mem = evb X (xfld 7 9 r) m_J0_length_8abf5 4 [a0] st mem := ke_getX dJ0_length_8abf5_1
theorem eJ0_length_8abf5_4x : ev X m_J0_length_8abf5 4 [a0] (vX r :: st) mem = evb X (xlen X r) m_J0_length_8abf5 5 [a0] st mem := ke_xlen dJ0_length_8abf5_4
theorem eJ0_length_8abf5_4 : ev X m_J0_length_8abf5 4 [a0] (vR r :: st) mem = evb X (alen mem r) m_J0_length_8abf5 5 [a0] st mem := ke_alen dJ0_length_8abf5_4
theorem eJ0_length_8abf5_5 : ev X m_J0_length_8abf5 5 [vR r] st mem = ev X m_J0_length_8abf5 6 [vR r] (vR r :: st) mem := ke_aload_n rfl dJ0_length_8abf5_5
theorem eJ0_length_8abf5_5x : ev X m_J0_length_8abf5 5 [vX r] st mem = ev X m_J0_length_8abf5 6 [vX r] (vX r :: st) mem := ke_xload_n rfl dJ0_length_8abf5_5
theorem eJ0_length_8abf5_6 : ev X m_J0_length_8abf5 6 [a0] (vX r :: [s0]) mem = evc X (gX r (ev X m_J0_coder_7d493 0 [vX r] [] mem)) m_J0_length_8abf5 9 [a0] [s0] := ke_callX (m' := m_J0_coder_7d493) (as := []) (n := 0) (rest := [s0]) dJ0_length_8abf5_6 rfl rfl rfl rfl rfl rfl (Nat.le_of_ble_eq_true rfl) (Nat.le_of_ble_eq_true rfl) rfl rfl
theorem eJ0_length_8abf5_9 : ev X m_J0_length_8abf5 9 [a0] (vI y :: vI x :: st) mem = ev X m_J0_length_8abf5 10 [a0] (vI (shr32 x y) :: st) mem := ke_ishr dJ0_length_8abf5_9
theorem eJ0_length_8abf5_10 : ev X m_J0_length_8abf5 10 [a0] [vI x] mem = some (some (vI x), mem) := ke_ireturn dJ0_length_8abf5_10 rfl
theorem eJ0_coder_7d493_0 : ev X m_J0_coder_7d493 0 [a0] st mem = ev X m_J0_coder_7d493 3 [a0] (vI 1 :: st) mem := ke_gets rfl dJ0_coder_7d493_0
theorem eJ0_coder_7d493_3 : ev X m_J0_coder_7d493 3 [a0] (vI x :: st) mem = if x = 0 then ev X m_J0_coder_7d493 13 [a0] st mem else ev X m_J0_coder_7d493 6 [a0] st mem := ke_if_eq dJ0_coder_7d493_3 rfl
theorem eJ0_coder_7d493_6 : ev X m_J0_coder_7d493 6 [vR r] st mem = ev X m_J0_coder_7d493 7 [vR r] (vR r :: st) mem := ke_aload_n rfl dJ0_coder_7d493_6
theorem eJ0_coder_7d493_6x : ev X m_J0_coder_7d493 6 [vX r] st mem = ev X m_J0_coder_7d493 7 [vX r] (vX r :: st) mem := ke_xload_n rfl dJ0_coder_7d493_6
theorem eJ0_coder_7d493_7 : ev X m_J0_coder_7d493 7 [a0] (vX r :: st) mem = evb X (xfld 7 15 r) m_J0_coder_7d493 10 [a0] st mem := ke_getX dJ0_coder_7d493_7
theorem eJ0_coder_7d493_10 : ev X m_J0_coder_7d493 10 [a0] st mem = ev X m_J0_coder_7d493 14 [a0] st mem := ke_goto dJ0_coder_7d493_10 rfl
theorem eJ0_coder_7d493_13 : ev X m_J0_coder_7d493 13 [a0] st mem = ev X m_J0_coder_7d493 14 [a0] (vI 1 :: st) mem := ke_iconst (by decide) dJ0_coder_7d493_13
theorem eJ0_coder_7d493_14 (hz : rok (some .byte) x = true) : ev X m_J0_coder_7d493 14 [a0] [vI x] mem = some (some (vI x), mem) := ke_zreturn dJ0_coder_7d493_14 rfl hz
theorem eJ0_charAt_5068e_0 : ev X m_J0_charAt_5068e 0 [vR r, a1] st mem = ev X m_J0_charAt_5068e 1 [vR r, a1] (vR r :: st) mem := ke_aload_n rfl dJ0_charAt_5068e_0
theorem eJ0_charAt_5068e_0x : ev X m_J0_charAt_5068e 0 [vX r, a1] st mem = ev X m_J0_charAt_5068e 1 [vX r, a1] (vX r :: st) mem := ke_xload_n rfl dJ0_charAt_5068e_0
theorem eJ0_charAt_5068e_1 : ev X m_J0_charAt_5068e 1 [a0, a1] (vX r :: []) mem = evc X (gX r (ev X m_J0_isLatin1_aae02 0 [vX r] [] mem)) m_J0_charAt_5068e 4 [a0, a1] [] := ke_callX (m' := m_J0_isLatin1_aae02) (as := []) (n := 0) (rest := []) dJ0_charAt_5068e_1 rfl rfl rfl rfl rfl rfl (Nat.le_of_ble_eq_true rfl) (Nat.le_of_ble_eq_true rfl) rfl rfl
theorem eJ0_charAt_5068e_4 : ev X m_J0_charAt_5068e 4 [a0, a1] (vI x :: st) mem = if x = 0 then ev X m_J0_charAt_5068e 16 [a0, a1] st mem else ev X m_J0_charAt_5068e 7 [a0, a1] st mem := ke_if_eq dJ0_charAt_5068e_4 rfl
theorem eJ0_charAt_5068e_7 : ev X m_J0_charAt_5068e 7 [vR r, a1] st mem = ev X m_J0_charAt_5068e 8 [vR r, a1] (vR r :: st) mem := ke_aload_n rfl dJ0_charAt_5068e_7
theorem eJ0_charAt_5068e_7x : ev X m_J0_charAt_5068e 7 [vX r, a1] st mem = ev X m_J0_charAt_5068e 8 [vX r, a1] (vX r :: st) mem := ke_xload_n rfl dJ0_charAt_5068e_7
theorem eJ0_charAt_5068e_8 : ev X m_J0_charAt_5068e 8 [a0, a1] (vX r :: st) mem = evb X (xfld 7 9 r) m_J0_charAt_5068e 11 [a0, a1] st mem := ke_getX dJ0_charAt_5068e_8
theorem eJ0_charAt_5068e_11 : ev X m_J0_charAt_5068e 11 [a0, vI x] st mem = ev X m_J0_charAt_5068e 12 [a0, vI x] (vI x :: st) mem := ke_iload_n rfl dJ0_charAt_5068e_11
theorem eJ0_charAt_5068e_12 : ev X m_J0_charAt_5068e 12 [a0, a1] (vI n1 :: vX r0 :: []) mem = evc X (ev X m_J1_charAt_3b067 0 [vX r0, vI n1] [] mem) m_J0_charAt_5068e 15 [a0, a1] [] := ke_callS (m' := m_J1_charAt_3b067) (as := [vX r0, vI n1]) (n := 2) (rest := []) dJ0_charAt_5068e_12 rfl (by decide) rfl rfl rfl rfl rfl (Nat.le_of_ble_eq_true rfl) (Nat.le_of_ble_eq_true rfl) rfl
theorem eJ0_charAt_5068e_15 (hz : rok (some .char) x = true) : ev X m_J0_charAt_5068e 15 [a0, a1] [vI x] mem = some (some (vI x), mem) := ke_zreturn dJ0_charAt_5068e_15 rfl hz
theorem eJ0_charAt_5068e_16 : ev X m_J0_charAt_5068e 16 [vR r, a1] st mem = ev X m_J0_charAt_5068e 17 [vR r, a1] (vR r :: st) mem := ke_aload_n rfl dJ0_charAt_5068e_16
theorem eJ0_charAt_5068e_16x : ev X m_J0_charAt_5068e 16 [vX r, a1] st mem = ev X m_J0_charAt_5068e 17 [vX r, a1] (vX r :: st) mem := ke_xload_n rfl dJ0_charAt_5068e_16
theorem eJ0_charAt_5068e_17 : ev X m_J0_charAt_5068e 17 [a0, a1] (vX r :: st) mem = evb X (xfld 7 9 r) m_J0_charAt_5068e 20 [a0, a1] st mem := ke_getX dJ0_charAt_5068e_17
theorem eJ0_charAt_5068e_20 : ev X m_J0_charAt_5068e 20 [a0, vI x] st mem = ev X m_J0_charAt_5068e 21 [a0, vI x] (vI x :: st) mem := ke_iload_n rfl dJ0_charAt_5068e_20
theorem eJ0_charAt_5068e_24 (hz : rok (some .char) x = true) : ev X m_J0_charAt_5068e 24 [a0, a1] [vI x] mem = some (some (vI x), mem) := ke_zreturn dJ0_charAt_5068e_24 rfl hz
theorem eJ0_isLatin1_aae02_0 : ev X m_J0_isLatin1_aae02 0 [a0] st mem = ev X m_J0_isLatin1_aae02 3 [a0] (vI 1 :: st) mem := ke_gets rfl dJ0_isLatin1_aae02_0
theorem eJ0_isLatin1_aae02_3 : ev X m_J0_isLatin1_aae02 3 [a0] (vI x :: st) mem = if x = 0 then ev X m_J0_isLatin1_aae02 17 [a0] st mem else ev X m_J0_isLatin1_aae02 6 [a0] st mem := ke_if_eq dJ0_isLatin1_aae02_3 rfl
theorem eJ0_isLatin1_aae02_6 : ev X m_J0_isLatin1_aae02 6 [vR r] st mem = ev X m_J0_isLatin1_aae02 7 [vR r] (vR r :: st) mem := ke_aload_n rfl dJ0_isLatin1_aae02_6
theorem eJ0_isLatin1_aae02_6x : ev X m_J0_isLatin1_aae02 6 [vX r] st mem = ev X m_J0_isLatin1_aae02 7 [vX r] (vX r :: st) mem := ke_xload_n rfl dJ0_isLatin1_aae02_6
theorem eJ0_isLatin1_aae02_7 : ev X m_J0_isLatin1_aae02 7 [a0] (vX r :: st) mem = evb X (xfld 7 15 r) m_J0_isLatin1_aae02 10 [a0] st mem := ke_getX dJ0_isLatin1_aae02_7
theorem eJ0_isLatin1_aae02_10 : ev X m_J0_isLatin1_aae02 10 [a0] (vI x :: st) mem = if x = 0 then ev X m_J0_isLatin1_aae02 13 [a0] st mem else ev X m_J0_isLatin1_aae02 17 [a0] st mem := ke_if_ne dJ0_isLatin1_aae02_10 rfl
theorem eJ0_isLatin1_aae02_13 : ev X m_J0_isLatin1_aae02 13 [a0] st mem = ev X m_J0_isLatin1_aae02 14 [a0] (vI 1 :: st) mem := ke_iconst (by decide) dJ0_isLatin1_aae02_13
theorem eJ0_isLatin1_aae02_14 : ev X m_J0_isLatin1_aae02 14 [a0] st mem = ev X m_J0_isLatin1_aae02 18 [a0] st mem := ke_goto dJ0_isLatin1_aae02_14 rfl
theorem eJ0_isLatin1_aae02_17 : ev X m_J0_isLatin1_aae02 17 [a0] st mem = ev X m_J0_isLatin1_aae02 18 [a0] (vI 0 :: st) mem := ke_iconst (by decide) dJ0_isLatin1_aae02_17
theorem eJ0_isLatin1_aae02_18a : ev X m_J0_isLatin1_aae02 18 [a0] [vI 1] mem = some (some (vI 1), mem) := ke_zreturn dJ0_isLatin1_aae02_18 rfl rfl
theorem eJ0_isLatin1_aae02_18b : ev X m_J0_isLatin1_aae02 18 [a0] [vI 0] mem = some (some (vI 0), mem) := ke_zreturn dJ0_isLatin1_aae02_18 rfl rfl
theorem eJ0_isLatin1_aae02_18c {c : Prop} [Decidable c] : ev X m_J0_isLatin1_aae02 18 [a0] [vI (if c then 1 else 0)] mem = some (some (vI (if c then 1 else 0)), mem) := ke_zreturn dJ0_isLatin1_aae02_18 rfl (by split <;> rfl)
theorem eJ1_charAt_3b067_0 : ev X m_J1_charAt_3b067 0 [a0, vI x] st mem = ev X m_J1_charAt_3b067 1 [a0, vI x] (vI x :: st) mem := ke_iload_n rfl dJ1_charAt_3b067_0
theorem eJ1_charAt_3b067_1 : ev X m_J1_charAt_3b067 1 [vR r, a1] st mem = ev X m_J1_charAt_3b067 2 [vR r, a1] (vR r :: st) mem := ke_aload_n rfl dJ1_charAt_3b067_1
theorem eJ1_charAt_3b067_1x : ev X m_J1_charAt_3b067 1 [vX r, a1] st mem = ev X m_J1_charAt_3b067 2 [vX r, a1] (vX r :: st) mem := ke_xload_n rfl dJ1_charAt_3b067_1
theorem eJ1_charAt_3b067_2x : ev X m_J1_charAt_3b067 2 [a0, a1] (vX r :: st) mem = evb X (xlen X r) m_J1_charAt_3b067 3 [a0, a1] st mem := ke_xlen dJ1_charAt_3b067_2
theorem eJ1_charAt_3b067_2 : ev X m_J1_charAt_3b067 2 [a0, a1] (vR r :: st) mem = evb X (alen mem r) m_J1_charAt_3b067 3 [a0, a1] st mem := ke_alen dJ1_charAt_3b067_2
theorem eJ1_charAt_3b067_3 : ev X m_J1_charAt_3b067 3 [a0, a1] (vI n1 :: vI n0 :: []) mem = evc X (ev X m_J0_checkIndex_df160 0 [vI n0, vI n1] [] mem) m_J1_charAt_3b067 6 [a0, a1] [] := ke_callS (m' := m_J0_checkIndex_df160) (as := [vI n0, vI n1]) (n := 2) (rest := []) dJ1_charAt_3b067_3 rfl (by decide) rfl rfl rfl rfl rfl (Nat.le_of_ble_eq_true rfl) (Nat.le_of_ble_eq_true rfl) rfl
theorem eJ1_charAt_3b067_6 : ev X m_J1_charAt_3b067 6 [vR r, a1] st mem = ev X m_J1_charAt_3b067 7 [vR r, a1] (vR r :: st) mem := ke_aload_n rfl dJ1_charAt_3b067_6
theorem eJ1_charAt_3b067_6x : ev X m_J1_charAt_3b067 6 [vX r, a1] st mem = ev X m_J1_charAt_3b067 7 [vX r, a1] (vX r :: st) mem := ke_xload_n rfl dJ1_charAt_3b067_6
theorem eJ1_charAt_3b067_7 : ev X m_J1_charAt_3b067 7 [a0, vI x] st mem = ev X m_J1_charAt_3b067 8 [a0, vI x] (vI x :: st) mem := ke_iload_n rfl dJ1_charAt_3b067_7
theorem eJ1_charAt_3b067_8 : ev X m_J1_charAt_3b067 8 [a0, a1] (vI x :: vX r :: st) mem = evb X (xget r x) m_J1_charAt_3b067 9 [a0, a1] st mem := ke_baload dJ1_charAt_3b067_8
theorem eJ1_charAt_3b067_9 : ev X m_J1_charAt_3b067 9 [a0, a1] st mem = ev X m_J1_charAt_3b067 12 [a0, a1] (vI 255 :: st) mem := ke_sipush (by decide) dJ1_charAt_3b067_9
theorem eJ1_charAt_3b067_12 : ev X m_J1_charAt_3b067 12 [a0, a1] (vI y :: vI x :: st) mem = ev X m_J1_charAt_3b067 13 [a0, a1] (vI (and32 x y) :: st) mem := ke_iand dJ1_charAt_3b067_12
theorem eJ1_charAt_3b067_13 : ev X m_J1_charAt_3b067 13 [a0, a1] (vI x :: st) mem = ev X m_J1_charAt_3b067 14 [a0, a1] (vI (i2c32 x) :: st) mem := ke_i2c dJ1_charAt_3b067_13
theorem eJ1_charAt_3b067_14 (hz : rok (some .char) x = true) : ev X m_J1_charAt_3b067 14 [a0, a1] [vI x] mem = some (some (vI x), mem) := ke_zreturn dJ1_charAt_3b067_14 rfl hz
theorem eJ0_checkIndex_df160_0 : ev X m_J0_checkIndex_df160 0 [vI x, a1] st mem = ev X m_J0_checkIndex_df160 1 [vI x, a1] (vI x :: st) mem := ke_iload_n rfl dJ0_checkIndex_df160_0
theorem eJ0_checkIndex_df160_1 : ev X m_J0_checkIndex_df160 1 [a0, vI x] st mem = ev X m_J0_checkIndex_df160 2 [a0, vI x] (vI x :: st) mem := ke_iload_n rfl dJ0_checkIndex_df160_1
theorem eJ0_checkIndex_df160_2 : ev X m_J0_checkIndex_df160 2 [a0, a1] st mem = ev X m_J0_checkIndex_df160 5 [a0, a1] (vU :: st) mem := ke_gets rfl dJ0_checkIndex_df160_2
theorem eJ0_checkIndex_df160_5 : ev X m_J0_checkIndex_df160 5 [a0, a1] (vU :: vI n1 :: vI n0 :: []) mem = evc X (ev X m_J3_checkIndex_8e157 0 [vI n0, vI n1, vU] [] mem) m_J0_checkIndex_df160 8 [a0, a1] [] := ke_callS (m' := m_J3_checkIndex_8e157) (as := [vI n0, vI n1, vU]) (n := 3) (rest := []) dJ0_checkIndex_df160_5 rfl (by decide) rfl rfl rfl rfl rfl (Nat.le_of_ble_eq_true rfl) (Nat.le_of_ble_eq_true rfl) rfl
theorem eJ0_checkIndex_df160_8 : ev X m_J0_checkIndex_df160 8 [a0, a1] (vI x :: st) mem = ev X m_J0_checkIndex_df160 9 [a0, a1] st mem := ke_popI dJ0_checkIndex_df160_8
theorem eJ0_checkIndex_df160_8r : ev X m_J0_checkIndex_df160 8 [a0, a1] (vR r :: st) mem = ev X m_J0_checkIndex_df160 9 [a0, a1] st mem := ke_popR dJ0_checkIndex_df160_8
theorem eJ0_checkIndex_df160_9 : ev X m_J0_checkIndex_df160 9 [a0, a1] [] mem = some (none, mem) := ke_return dJ0_checkIndex_df160_9 rfl
theorem eJ3_checkIndex_8e157_0 : ev X m_J3_checkIndex_8e157 0 [vI x, a1, a2] st mem = ev X m_J3_checkIndex_8e157 1 [vI x, a1, a2] (vI x :: st) mem := ke_iload_n rfl dJ3_checkIndex_8e157_0
theorem eJ3_checkIndex_8e157_1 : ev X m_J3_checkIndex_8e157 1 [a0, a1, a2] (vI x :: st) mem = if x < 0 then ev X m_J3_checkIndex_8e157 9 [a0, a1, a2] st mem else ev X m_J3_checkIndex_8e157 4 [a0, a1, a2] st mem := ke_if_lt dJ3_checkIndex_8e157_1 rfl
theorem eJ3_checkIndex_8e157_4 : ev X m_J3_checkIndex_8e157 4 [vI x, a1, a2] st mem = ev X m_J3_checkIndex_8e157 5 [vI x, a1, a2] (vI x :: st) mem := ke_iload_n rfl dJ3_checkIndex_8e157_4
theorem eJ3_checkIndex_8e157_5 : ev X m_J3_checkIndex_8e157 5 [a0, vI x, a2] st mem = ev X m_J3_checkIndex_8e157 6 [a0, vI x, a2] (vI x :: st) mem := ke_iload_n rfl dJ3_checkIndex_8e157_5
theorem eJ3_checkIndex_8e157_6 : ev X m_J3_checkIndex_8e157 6 [a0, a1, a2] (vI y :: vI x :: st) mem = if x < y then ev X m_J3_checkIndex_8e157 16 [a0, a1, a2] st mem else ev X m_J3_checkIndex_8e157 9 [a0, a1, a2] st mem := ke_icmp_lt dJ3_checkIndex_8e157_6 rfl
theorem eJ3_checkIndex_8e157_9 : ev X m_J3_checkIndex_8e157 9 [a0, a1, vR r] st mem = ev X m_J3_checkIndex_8e157 10 [a0, a1, vR r] (vR r :: st) mem := ke_aload_n rfl dJ3_checkIndex_8e157_9
theorem eJ3_checkIndex_8e157_9x : ev X m_J3_checkIndex_8e157 9 [a0, a1, vX r] st mem = ev X m_J3_checkIndex_8e157 10 [a0, a1, vX r] (vX r :: st) mem := ke_xload_n rfl dJ3_checkIndex_8e157_9
theorem eJ3_checkIndex_8e157_10 : ev X m_J3_checkIndex_8e157 10 [vI x, a1, a2] st mem = ev X m_J3_checkIndex_8e157 11 [vI x, a1, a2] (vI x :: st) mem := ke_iload_n rfl dJ3_checkIndex_8e157_10
theorem eJ3_checkIndex_8e157_11 : ev X m_J3_checkIndex_8e157 11 [a0, vI x, a2] st mem = ev X m_J3_checkIndex_8e157 12 [a0, vI x, a2] (vI x :: st) mem := ke_iload_n rfl dJ3_checkIndex_8e157_11
theorem eJ3_checkIndex_8e157_16 : ev X m_J3_checkIndex_8e157 16 [vI x, a1, a2] st mem = ev X m_J3_checkIndex_8e157 17 [vI x, a1, a2] (vI x :: st) mem := ke_iload_n rfl dJ3_checkIndex_8e157_16
theorem eJ3_checkIndex_8e157_17 : ev X m_J3_checkIndex_8e157 17 [a0, a1, a2] [vI x] mem = some (some (vI x), mem) := ke_ireturn dJ3_checkIndex_8e157_17 rfl
theorem eX2_fits_0 : ev X m_X2_fits 0 [vI x, a1] st mem = ev X m_X2_fits 1 [vI x, a1] (vI x :: st) mem := ke_iload_n rfl dX2_fits_0
theorem eX2_fits_1 : ev X m_X2_fits 1 [a0, a1] st mem = ev X m_X2_fits 3 [a0, a1] (vI 75 :: st) mem := ke_bipush (by decide) dX2_fits_1
theorem eX2_fits_3 : ev X m_X2_fits 3 [a0, a1] (vI y :: vI x :: st) mem = if x = y then ev X m_X2_fits 6 [a0, a1] st mem else ev X m_X2_fits 26 [a0, a1] st mem := ke_icmp_ne dX2_fits_3 rfl
theorem eX2_fits_6 : ev X m_X2_fits 6 [a0, vI x] st mem = ev X m_X2_fits 7 [a0, vI x] (vI x :: st) mem := ke_iload_n rfl dX2_fits_6
theorem eX2_fits_7 : ev X m_X2_fits 7 [a0, a1] (vI x :: st) mem = if x < 0 then ev X m_X2_fits 24 [a0, a1] st mem else ev X m_X2_fits 10 [a0, a1] st mem := ke_if_lt dX2_fits_7 rfl
theorem eX2_fits_10 : ev X m_X2_fits 10 [a0, a1] st mem = ev X m_X2_fits 12 [a0, a1] (vX 8 :: st) mem := ke_ldcS rfl rfl dX2_fits_10
theorem eX2_fits_12 : ev X m_X2_fits 12 [a0, vI x] st mem = ev X m_X2_fits 13 [a0, vI x] (vI x :: st) mem := ke_iload_n rfl dX2_fits_12
theorem eX2_fits_13 : ev X m_X2_fits 13 [a0, a1] (vI x :: st) mem = ev X m_X2_fits 14 [a0, a1] (vI (i2c32 x) :: st) mem := ke_i2c dX2_fits_13
theorem eX2_fits_14 : ev X m_X2_fits 14 [a0, a1] (vI n0 :: vX r :: []) mem = evc X (gX r (ev X m_J0_indexOf_0f7a4 0 [vX r, vI n0] [] mem)) m_X2_fits 17 [a0, a1] [] := ke_callX (m' := m_J0_indexOf_0f7a4) (as := [vI n0]) (n := 1) (rest := []) dX2_fits_14 rfl rfl rfl rfl rfl rfl (Nat.le_of_ble_eq_true rfl) (Nat.le_of_ble_eq_true rfl) rfl rfl
theorem eX2_fits_17 : ev X m_X2_fits 17 [a0, a1] (vI x :: st) mem = if x < 0 then ev X m_X2_fits 24 [a0, a1] st mem else ev X m_X2_fits 20 [a0, a1] st mem := ke_if_lt dX2_fits_17 rfl
theorem eX2_fits_20 : ev X m_X2_fits 20 [a0, a1] st mem = ev X m_X2_fits 21 [a0, a1] (vI 1 :: st) mem := ke_iconst (by decide) dX2_fits_20
theorem eX2_fits_21 : ev X m_X2_fits 21 [a0, a1] st mem = ev X m_X2_fits 25 [a0, a1] st mem := ke_goto dX2_fits_21 rfl
theorem eX2_fits_24 : ev X m_X2_fits 24 [a0, a1] st mem = ev X m_X2_fits 25 [a0, a1] (vI 0 :: st) mem := ke_iconst (by decide) dX2_fits_24
theorem eX2_fits_25a : ev X m_X2_fits 25 [a0, a1] [vI 1] mem = some (some (vI 1), mem) := ke_zreturn dX2_fits_25 rfl rfl
theorem eX2_fits_25b : ev X m_X2_fits 25 [a0, a1] [vI 0] mem = some (some (vI 0), mem) := ke_zreturn dX2_fits_25 rfl rfl
theorem eX2_fits_25c {c : Prop} [Decidable c] : ev X m_X2_fits 25 [a0, a1] [vI (if c then 1 else 0)] mem = some (some (vI (if c then 1 else 0)), mem) := ke_zreturn dX2_fits_25 rfl (by split <;> rfl)
theorem eX2_fits_26 : ev X m_X2_fits 26 [vI x, a1] st mem = ev X m_X2_fits 27 [vI x, a1] (vI x :: st) mem := ke_iload_n rfl dX2_fits_26
theorem eX2_fits_27 : ev X m_X2_fits 27 [a0, a1] st mem = ev X m_X2_fits 29 [a0, a1] (vI 35 :: st) mem := ke_bipush (by decide) dX2_fits_27
theorem eX2_fits_29 : ev X m_X2_fits 29 [a0, a1] (vI y :: vI x :: st) mem = if x = y then ev X m_X2_fits 32 [a0, a1] st mem else ev X m_X2_fits 50 [a0, a1] st mem := ke_icmp_ne dX2_fits_29 rfl
theorem eX2_fits_32 : ev X m_X2_fits 32 [a0, vI x] st mem = ev X m_X2_fits 33 [a0, vI x] (vI x :: st) mem := ke_iload_n rfl dX2_fits_32
theorem eX2_fits_33 : ev X m_X2_fits 33 [a0, a1] st mem = ev X m_X2_fits 35 [a0, a1] (vI 48 :: st) mem := ke_bipush (by decide) dX2_fits_33
theorem eX2_fits_35 : ev X m_X2_fits 35 [a0, a1] (vI y :: vI x :: st) mem = if x < y then ev X m_X2_fits 48 [a0, a1] st mem else ev X m_X2_fits 38 [a0, a1] st mem := ke_icmp_lt dX2_fits_35 rfl
theorem eX2_fits_38 : ev X m_X2_fits 38 [a0, vI x] st mem = ev X m_X2_fits 39 [a0, vI x] (vI x :: st) mem := ke_iload_n rfl dX2_fits_38
theorem eX2_fits_39 : ev X m_X2_fits 39 [a0, a1] st mem = ev X m_X2_fits 41 [a0, a1] (vI 57 :: st) mem := ke_bipush (by decide) dX2_fits_39
theorem eX2_fits_41 : ev X m_X2_fits 41 [a0, a1] (vI y :: vI x :: st) mem = if y < x then ev X m_X2_fits 48 [a0, a1] st mem else ev X m_X2_fits 44 [a0, a1] st mem := ke_icmp_gt dX2_fits_41 rfl
theorem eX2_fits_44 : ev X m_X2_fits 44 [a0, a1] st mem = ev X m_X2_fits 45 [a0, a1] (vI 1 :: st) mem := ke_iconst (by decide) dX2_fits_44
theorem eX2_fits_45 : ev X m_X2_fits 45 [a0, a1] st mem = ev X m_X2_fits 49 [a0, a1] st mem := ke_goto dX2_fits_45 rfl
theorem eX2_fits_48 : ev X m_X2_fits 48 [a0, a1] st mem = ev X m_X2_fits 49 [a0, a1] (vI 0 :: st) mem := ke_iconst (by decide) dX2_fits_48
theorem eX2_fits_49a : ev X m_X2_fits 49 [a0, a1] [vI 1] mem = some (some (vI 1), mem) := ke_zreturn dX2_fits_49 rfl rfl
theorem eX2_fits_49b : ev X m_X2_fits 49 [a0, a1] [vI 0] mem = some (some (vI 0), mem) := ke_zreturn dX2_fits_49 rfl rfl
theorem eX2_fits_49c {c : Prop} [Decidable c] : ev X m_X2_fits 49 [a0, a1] [vI (if c then 1 else 0)] mem = some (some (vI (if c then 1 else 0)), mem) := ke_zreturn dX2_fits_49 rfl (by split <;> rfl)
theorem eX2_fits_50 : ev X m_X2_fits 50 [a0, vI x] st mem = ev X m_X2_fits 51 [a0, vI x] (vI x :: st) mem := ke_iload_n rfl dX2_fits_50
theorem eX2_fits_51 : ev X m_X2_fits 51 [vI x, a1] st mem = ev X m_X2_fits 52 [vI x, a1] (vI x :: st) mem := ke_iload_n rfl dX2_fits_51
theorem eX2_fits_52 : ev X m_X2_fits 52 [a0, a1] (vI y :: vI x :: st) mem = if x = y then ev X m_X2_fits 55 [a0, a1] st mem else ev X m_X2_fits 65 [a0, a1] st mem := ke_icmp_ne dX2_fits_52 rfl
theorem eX2_fits_55 : ev X m_X2_fits 55 [vI x, a1] st mem = ev X m_X2_fits 56 [vI x, a1] (vI x :: st) mem := ke_iload_n rfl dX2_fits_55
theorem eX2_fits_56 : ev X m_X2_fits 56 [a0, a1] st mem = ev X m_X2_fits 58 [a0, a1] (vI 63 :: st) mem := ke_bipush (by decide) dX2_fits_56
theorem eX2_fits_58 : ev X m_X2_fits 58 [a0, a1] (vI y :: vI x :: st) mem = if x = y then ev X m_X2_fits 65 [a0, a1] st mem else ev X m_X2_fits 61 [a0, a1] st mem := ke_icmp_eq dX2_fits_58 rfl
theorem eX2_fits_61 : ev X m_X2_fits 61 [a0, a1] st mem = ev X m_X2_fits 62 [a0, a1] (vI 1 :: st) mem := ke_iconst (by decide) dX2_fits_61
theorem eX2_fits_62 : ev X m_X2_fits 62 [a0, a1] st mem = ev X m_X2_fits 66 [a0, a1] st mem := ke_goto dX2_fits_62 rfl
theorem eX2_fits_65 : ev X m_X2_fits 65 [a0, a1] st mem = ev X m_X2_fits 66 [a0, a1] (vI 0 :: st) mem := ke_iconst (by decide) dX2_fits_65
theorem eX2_fits_66a : ev X m_X2_fits 66 [a0, a1] [vI 1] mem = some (some (vI 1), mem) := ke_zreturn dX2_fits_66 rfl rfl
theorem eX2_fits_66b : ev X m_X2_fits 66 [a0, a1] [vI 0] mem = some (some (vI 0), mem) := ke_zreturn dX2_fits_66 rfl rfl
theorem eX2_fits_66c {c : Prop} [Decidable c] : ev X m_X2_fits 66 [a0, a1] [vI (if c then 1 else 0)] mem = some (some (vI (if c then 1 else 0)), mem) := ke_zreturn dX2_fits_66 rfl (by split <;> rfl)
theorem eJ0_indexOf_0f7a4_0 : ev X m_J0_indexOf_0f7a4 0 [vR r, a1] st mem = ev X m_J0_indexOf_0f7a4 1 [vR r, a1] (vR r :: st) mem := ke_aload_n rfl dJ0_indexOf_0f7a4_0
theorem eJ0_indexOf_0f7a4_0x : ev X m_J0_indexOf_0f7a4 0 [vX r, a1] st mem = ev X m_J0_indexOf_0f7a4 1 [vX r, a1] (vX r :: st) mem := ke_xload_n rfl dJ0_indexOf_0f7a4_0
theorem eJ0_indexOf_0f7a4_1 : ev X m_J0_indexOf_0f7a4 1 [a0, vI x] st mem = ev X m_J0_indexOf_0f7a4 2 [a0, vI x] (vI x :: st) mem := ke_iload_n rfl dJ0_indexOf_0f7a4_1
theorem eJ0_indexOf_0f7a4_2 : ev X m_J0_indexOf_0f7a4 2 [a0, a1] st mem = ev X m_J0_indexOf_0f7a4 3 [a0, a1] (vI 0 :: st) mem := ke_iconst (by decide) dJ0_indexOf_0f7a4_2
theorem eJ0_indexOf_0f7a4_3 : ev X m_J0_indexOf_0f7a4 3 [a0, a1] (vI n1 :: vI n0 :: vX r :: []) mem = evc X (gX r (ev X m_J0_indexOf_7cf53 0 [vX r, vI n0, vI n1] [] mem)) m_J0_indexOf_0f7a4 6 [a0, a1] [] := ke_callX (m' := m_J0_indexOf_7cf53) (as := [vI n0, vI n1]) (n := 2) (rest := []) dJ0_indexOf_0f7a4_3 rfl rfl rfl rfl rfl rfl (Nat.le_of_ble_eq_true rfl) (Nat.le_of_ble_eq_true rfl) rfl rfl
theorem eJ0_indexOf_0f7a4_6 : ev X m_J0_indexOf_0f7a4 6 [a0, a1] [vI x] mem = some (some (vI x), mem) := ke_ireturn dJ0_indexOf_0f7a4_6 rfl
theorem eJ0_indexOf_7cf53_0 : ev X m_J0_indexOf_7cf53 0 [vR r, a1, a2] st mem = ev X m_J0_indexOf_7cf53 1 [vR r, a1, a2] (vR r :: st) mem := ke_aload_n rfl dJ0_indexOf_7cf53_0
theorem eJ0_indexOf_7cf53_0x : ev X m_J0_indexOf_7cf53 0 [vX r, a1, a2] st mem = ev X m_J0_indexOf_7cf53 1 [vX r, a1, a2] (vX r :: st) mem := ke_xload_n rfl dJ0_indexOf_7cf53_0
theorem eJ0_indexOf_7cf53_1 : ev X m_J0_indexOf_7cf53 1 [a0, a1, a2] (vX r :: []) mem = evc X (gX r (ev X m_J0_isLatin1_aae02 0 [vX r] [] mem)) m_J0_indexOf_7cf53 4 [a0, a1, a2] [] := ke_callX (m' := m_J0_isLatin1_aae02) (as := []) (n := 0) (rest := []) dJ0_indexOf_7cf53_1 rfl rfl rfl rfl rfl rfl (Nat.le_of_ble_eq_true rfl) (Nat.le_of_ble_eq_true rfl) rfl rfl
theorem eJ0_indexOf_7cf53_4 : ev X m_J0_indexOf_7cf53 4 [a0, a1, a2] (vI x :: st) mem = if x = 0 then ev X m_J0_indexOf_7cf53 23 [a0, a1, a2] st mem else ev X m_J0_indexOf_7cf53 7 [a0, a1, a2] st mem := ke_if_eq dJ0_indexOf_7cf53_4 rfl
theorem eJ0_indexOf_7cf53_7 : ev X m_J0_indexOf_7cf53 7 [vR r, a1, a2] st mem = ev X m_J0_indexOf_7cf53 8 [vR r, a1, a2] (vR r :: st) mem := ke_aload_n rfl dJ0_indexOf_7cf53_7
theorem eJ0_indexOf_7cf53_7x : ev X m_J0_indexOf_7cf53 7 [vX r, a1, a2] st mem = ev X m_J0_indexOf_7cf53 8 [vX r, a1, a2] (vX r :: st) mem := ke_xload_n rfl dJ0_indexOf_7cf53_7
theorem eJ0_indexOf_7cf53_8 : ev X m_J0_indexOf_7cf53 8 [a0, a1, a2] (vX r :: st) mem = evb X (xfld 7 9 r) m_J0_indexOf_7cf53 11 [a0, a1, a2] st mem := ke_getX dJ0_indexOf_7cf53_8
theorem eJ0_indexOf_7cf53_11 : ev X m_J0_indexOf_7cf53 11 [a0, vI x, a2] st mem = ev X m_J0_indexOf_7cf53 12 [a0, vI x, a2] (vI x :: st) mem := ke_iload_n rfl dJ0_indexOf_7cf53_11
theorem eJ0_indexOf_7cf53_12 : ev X m_J0_indexOf_7cf53 12 [a0, a1, vI x] st mem = ev X m_J0_indexOf_7cf53 13 [a0, a1, vI x] (vI x :: st) mem := ke_iload_n rfl dJ0_indexOf_7cf53_12
theorem eJ0_indexOf_7cf53_13 : ev X m_J0_indexOf_7cf53 13 [vR r, a1, a2] st mem = ev X m_J0_indexOf_7cf53 14 [vR r, a1, a2] (vR r :: st) mem := ke_aload_n rfl dJ0_indexOf_7cf53_13
theorem eJ0_indexOf_7cf53_13x : ev X m_J0_indexOf_7cf53 13 [vX r, a1, a2] st mem = ev X m_J0_indexOf_7cf53 14 [vX r, a1, a2] (vX r :: st) mem := ke_xload_n rfl dJ0_indexOf_7cf53_13
theorem eJ0_indexOf_7cf53_14 : ev X m_J0_indexOf_7cf53 14 [a0, a1, a2] (vX r :: [s0, s1, s2]) mem = evc X (gX r (ev X m_J0_length_8abf5 0 [vX r] [] mem)) m_J0_indexOf_7cf53 17 [a0, a1, a2] [s0, s1, s2] := ke_callX (m' := m_J0_length_8abf5) (as := []) (n := 0) (rest := [s0, s1, s2]) dJ0_indexOf_7cf53_14 rfl rfl rfl rfl rfl rfl (Nat.le_of_ble_eq_true rfl) (Nat.le_of_ble_eq_true rfl) rfl rfl
theorem eJ0_indexOf_7cf53_17 : ev X m_J0_indexOf_7cf53 17 [a0, a1, a2] (vI n3 :: vI n2 :: vI n1 :: vX r0 :: []) mem = evc X (ev X m_J1_indexOf_4cfef 0 [vX r0, vI n1, vI n2, vI n3] [] mem) m_J0_indexOf_7cf53 20 [a0, a1, a2] [] := ke_callS (m' := m_J1_indexOf_4cfef) (as := [vX r0, vI n1, vI n2, vI n3]) (n := 4) (rest := []) dJ0_indexOf_7cf53_17 rfl (by decide) rfl rfl rfl rfl rfl (Nat.le_of_ble_eq_true rfl) (Nat.le_of_ble_eq_true rfl) rfl
theorem eJ0_indexOf_7cf53_20 : ev X m_J0_indexOf_7cf53 20 [a0, a1, a2] st mem = ev X m_J0_indexOf_7cf53 36 [a0, a1, a2] st mem := ke_goto dJ0_indexOf_7cf53_20 rfl
theorem eJ0_indexOf_7cf53_23 : ev X m_J0_indexOf_7cf53 23 [vR r, a1, a2] st mem = ev X m_J0_indexOf_7cf53 24 [vR r, a1, a2] (vR r :: st) mem := ke_aload_n rfl dJ0_indexOf_7cf53_23
theorem eJ0_indexOf_7cf53_23x : ev X m_J0_indexOf_7cf53 23 [vX r, a1, a2] st mem = ev X m_J0_indexOf_7cf53 24 [vX r, a1, a2] (vX r :: st) mem := ke_xload_n rfl dJ0_indexOf_7cf53_23
theorem eJ0_indexOf_7cf53_24 : ev X m_J0_indexOf_7cf53 24 [a0, a1, a2] (vX r :: st) mem = evb X (xfld 7 9 r) m_J0_indexOf_7cf53 27 [a0, a1, a2] st mem := ke_getX dJ0_indexOf_7cf53_24
theorem eJ0_indexOf_7cf53_27 : ev X m_J0_indexOf_7cf53 27 [a0, vI x, a2] st mem = ev X m_J0_indexOf_7cf53 28 [a0, vI x, a2] (vI x :: st) mem := ke_iload_n rfl dJ0_indexOf_7cf53_27
theorem eJ0_indexOf_7cf53_28 : ev X m_J0_indexOf_7cf53 28 [a0, a1, vI x] st mem = ev X m_J0_indexOf_7cf53 29 [a0, a1, vI x] (vI x :: st) mem := ke_iload_n rfl dJ0_indexOf_7cf53_28
theorem eJ0_indexOf_7cf53_29 : ev X m_J0_indexOf_7cf53 29 [vR r, a1, a2] st mem = ev X m_J0_indexOf_7cf53 30 [vR r, a1, a2] (vR r :: st) mem := ke_aload_n rfl dJ0_indexOf_7cf53_29
theorem eJ0_indexOf_7cf53_29x : ev X m_J0_indexOf_7cf53 29 [vX r, a1, a2] st mem = ev X m_J0_indexOf_7cf53 30 [vX r, a1, a2] (vX r :: st) mem := ke_xload_n rfl dJ0_indexOf_7cf53_29
theorem eJ0_indexOf_7cf53_30 : ev X m_J0_indexOf_7cf53 30 [a0, a1, a2] (vX r :: [s0, s1, s2]) mem = evc X (gX r (ev X m_J0_length_8abf5 0 [vX r] [] mem)) m_J0_indexOf_7cf53 33 [a0, a1, a2] [s0, s1, s2] := ke_callX (m' := m_J0_length_8abf5) (as := []) (n := 0) (rest := [s0, s1, s2]) dJ0_indexOf_7cf53_30 rfl rfl rfl rfl rfl rfl (Nat.le_of_ble_eq_true rfl) (Nat.le_of_ble_eq_true rfl) rfl rfl
theorem eJ0_indexOf_7cf53_36 : ev X m_J0_indexOf_7cf53 36 [a0, a1, a2] [vI x] mem = some (some (vI x), mem) := ke_ireturn dJ0_indexOf_7cf53_36 rfl
theorem eJ1_indexOf_4cfef_0 : ev X m_J1_indexOf_4cfef 0 [a0, vI x, a2, a3] st mem = ev X m_J1_indexOf_4cfef 1 [a0, vI x, a2, a3] (vI x :: st) mem := ke_iload_n rfl dJ1_indexOf_4cfef_0
theorem eJ1_indexOf_4cfef_1 : ev X m_J1_indexOf_4cfef 1 [a0, a1, a2, a3] (vI n0 :: []) mem = evc X (ev X m_J1_canEncode_9a6ad 0 [vI n0] [] mem) m_J1_indexOf_4cfef 4 [a0, a1, a2, a3] [] := ke_callS (m' := m_J1_canEncode_9a6ad) (as := [vI n0]) (n := 1) (rest := []) dJ1_indexOf_4cfef_1 rfl (by decide) rfl rfl rfl rfl rfl (Nat.le_of_ble_eq_true rfl) (Nat.le_of_ble_eq_true rfl) rfl
theorem eJ1_indexOf_4cfef_4 : ev X m_J1_indexOf_4cfef 4 [a0, a1, a2, a3] (vI x :: st) mem = if x = 0 then ev X m_J1_indexOf_4cfef 7 [a0, a1, a2, a3] st mem else ev X m_J1_indexOf_4cfef 9 [a0, a1, a2, a3] st mem := ke_if_ne dJ1_indexOf_4cfef_4 rfl
theorem eJ1_indexOf_4cfef_7 : ev X m_J1_indexOf_4cfef 7 [a0, a1, a2, a3] st mem = ev X m_J1_indexOf_4cfef 8 [a0, a1, a2, a3] (vI (-1) :: st) mem := ke_iconst (by decide) dJ1_indexOf_4cfef_7
theorem eJ1_indexOf_4cfef_8 : ev X m_J1_indexOf_4cfef 8 [a0, a1, a2, a3] [vI x] mem = some (some (vI x), mem) := ke_ireturn dJ1_indexOf_4cfef_8 rfl
theorem eJ1_indexOf_4cfef_9 : ev X m_J1_indexOf_4cfef 9 [a0, a1, vI x, a3] st mem = ev X m_J1_indexOf_4cfef 10 [a0, a1, vI x, a3] (vI x :: st) mem := ke_iload_n rfl dJ1_indexOf_4cfef_9
theorem eJ1_indexOf_4cfef_10 : ev X m_J1_indexOf_4cfef 10 [a0, a1, a2, a3] st mem = ev X m_J1_indexOf_4cfef 11 [a0, a1, a2, a3] (vI 0 :: st) mem := ke_iconst (by decide) dJ1_indexOf_4cfef_10
theorem eJ1_indexOf_4cfef_11 : ev X m_J1_indexOf_4cfef 11 [a0, a1, a2, a3] (vI y :: vI x :: []) mem = ev X m_J1_indexOf_4cfef 14 [a0, a1, a2, a3] (vI (if x < y then y else x) :: []) mem := ke_mmax rfl rfl rfl (Nat.le_of_ble_eq_true rfl) (Nat.le_of_ble_eq_true rfl) (Nat.le_of_ble_eq_true rfl) dJ1_indexOf_4cfef_11
theorem eJ1_indexOf_4cfef_14 : ev X m_J1_indexOf_4cfef 14 [a0, a1, a2, a3] (vI x :: st) mem = ev X m_J1_indexOf_4cfef 15 [a0, a1, vI x, a3] st mem := ke_istore_n (Nat.le_of_ble_eq_true rfl) rfl dJ1_indexOf_4cfef_14
theorem eJ1_indexOf_4cfef_15 : ev X m_J1_indexOf_4cfef 15 [a0, a1, a2, vI x] st mem = ev X m_J1_indexOf_4cfef 16 [a0, a1, a2, vI x] (vI x :: st) mem := ke_iload_n rfl dJ1_indexOf_4cfef_15
theorem eJ1_indexOf_4cfef_16 : ev X m_J1_indexOf_4cfef 16 [vR r, a1, a2, a3] st mem = ev X m_J1_indexOf_4cfef 17 [vR r, a1, a2, a3] (vR r :: st) mem := ke_aload_n rfl dJ1_indexOf_4cfef_16
theorem eJ1_indexOf_4cfef_16x : ev X m_J1_indexOf_4cfef 16 [vX r, a1, a2, a3] st mem = ev X m_J1_indexOf_4cfef 17 [vX r, a1, a2, a3] (vX r :: st) mem := ke_xload_n rfl dJ1_indexOf_4cfef_16
theorem eJ1_indexOf_4cfef_17x : ev X m_J1_indexOf_4cfef 17 [a0, a1, a2, a3] (vX r :: st) mem = evb X (xlen X r) m_J1_indexOf_4cfef 18 [a0, a1, a2, a3] st mem := ke_xlen dJ1_indexOf_4cfef_17
theorem eJ1_indexOf_4cfef_17 : ev X m_J1_indexOf_4cfef 17 [a0, a1, a2, a3] (vR r :: st) mem = evb X (alen mem r) m_J1_indexOf_4cfef 18 [a0, a1, a2, a3] st mem := ke_alen dJ1_indexOf_4cfef_17
theorem eJ1_indexOf_4cfef_18 : ev X m_J1_indexOf_4cfef 18 [a0, a1, a2, a3] (vI y :: vI x :: []) mem = ev X m_J1_indexOf_4cfef 21 [a0, a1, a2, a3] (vI (if y < x then y else x) :: []) mem := ke_mmin rfl rfl rfl (Nat.le_of_ble_eq_true rfl) (Nat.le_of_ble_eq_true rfl) (Nat.le_of_ble_eq_true rfl) dJ1_indexOf_4cfef_18
theorem eJ1_indexOf_4cfef_21 : ev X m_J1_indexOf_4cfef 21 [a0, a1, a2, a3] (vI x :: st) mem = ev X m_J1_indexOf_4cfef 22 [a0, a1, a2, vI x] st mem := ke_istore_n (Nat.le_of_ble_eq_true rfl) rfl dJ1_indexOf_4cfef_21
theorem eJ1_indexOf_4cfef_22 : ev X m_J1_indexOf_4cfef 22 [a0, a1, vI x, a3] st mem = ev X m_J1_indexOf_4cfef 23 [a0, a1, vI x, a3] (vI x :: st) mem := ke_iload_n rfl dJ1_indexOf_4cfef_22
theorem eJ1_indexOf_4cfef_23 : ev X m_J1_indexOf_4cfef 23 [a0, a1, a2, vI x] st mem = ev X m_J1_indexOf_4cfef 24 [a0, a1, a2, vI x] (vI x :: st) mem := ke_iload_n rfl dJ1_indexOf_4cfef_23
theorem eJ1_indexOf_4cfef_24 : ev X m_J1_indexOf_4cfef 24 [a0, a1, a2, a3] (vI y :: vI x :: st) mem = if x < y then ev X m_J1_indexOf_4cfef 29 [a0, a1, a2, a3] st mem else ev X m_J1_indexOf_4cfef 27 [a0, a1, a2, a3] st mem := ke_icmp_lt dJ1_indexOf_4cfef_24 rfl
theorem eJ1_indexOf_4cfef_27 : ev X m_J1_indexOf_4cfef 27 [a0, a1, a2, a3] st mem = ev X m_J1_indexOf_4cfef 28 [a0, a1, a2, a3] (vI (-1) :: st) mem := ke_iconst (by decide) dJ1_indexOf_4cfef_27
theorem eJ1_indexOf_4cfef_28 : ev X m_J1_indexOf_4cfef 28 [a0, a1, a2, a3] [vI x] mem = some (some (vI x), mem) := ke_ireturn dJ1_indexOf_4cfef_28 rfl
theorem eJ1_indexOf_4cfef_29 : ev X m_J1_indexOf_4cfef 29 [vR r, a1, a2, a3] st mem = ev X m_J1_indexOf_4cfef 30 [vR r, a1, a2, a3] (vR r :: st) mem := ke_aload_n rfl dJ1_indexOf_4cfef_29
theorem eJ1_indexOf_4cfef_29x : ev X m_J1_indexOf_4cfef 29 [vX r, a1, a2, a3] st mem = ev X m_J1_indexOf_4cfef 30 [vX r, a1, a2, a3] (vX r :: st) mem := ke_xload_n rfl dJ1_indexOf_4cfef_29
theorem eJ1_indexOf_4cfef_30 : ev X m_J1_indexOf_4cfef 30 [a0, vI x, a2, a3] st mem = ev X m_J1_indexOf_4cfef 31 [a0, vI x, a2, a3] (vI x :: st) mem := ke_iload_n rfl dJ1_indexOf_4cfef_30
theorem eJ1_indexOf_4cfef_31 : ev X m_J1_indexOf_4cfef 31 [a0, a1, vI x, a3] st mem = ev X m_J1_indexOf_4cfef 32 [a0, a1, vI x, a3] (vI x :: st) mem := ke_iload_n rfl dJ1_indexOf_4cfef_31
theorem eJ1_indexOf_4cfef_32 : ev X m_J1_indexOf_4cfef 32 [a0, a1, a2, vI x] st mem = ev X m_J1_indexOf_4cfef 33 [a0, a1, a2, vI x] (vI x :: st) mem := ke_iload_n rfl dJ1_indexOf_4cfef_32
theorem eJ1_indexOf_4cfef_33 : ev X m_J1_indexOf_4cfef 33 [a0, a1, a2, a3] (vI n3 :: vI n2 :: vI n1 :: vX r0 :: []) mem = evc X (ev X m_J1_indexOfChar_4cfef 0 [vX r0, vI n1, vI n2, vI n3, vS, vS] [] mem) m_J1_indexOf_4cfef 36 [a0, a1, a2, a3] [] := ke_callS (m' := m_J1_indexOfChar_4cfef) (as := [vX r0, vI n1, vI n2, vI n3]) (n := 4) (rest := []) dJ1_indexOf_4cfef_33 rfl (by decide) rfl rfl rfl rfl rfl (Nat.le_of_ble_eq_true rfl) (Nat.le_of_ble_eq_true rfl) rfl
theorem eJ1_indexOf_4cfef_36 : ev X m_J1_indexOf_4cfef 36 [a0, a1, a2, a3] [vI x] mem = some (some (vI x), mem) := ke_ireturn dJ1_indexOf_4cfef_36 rfl
theorem eJ1_canEncode_9a6ad_0 : ev X m_J1_canEncode_9a6ad 0 [vI x] st mem = ev X m_J1_canEncode_9a6ad 1 [vI x] (vI x :: st) mem := ke_iload_n rfl dJ1_canEncode_9a6ad_0
theorem eJ1_canEncode_9a6ad_1 : ev X m_J1_canEncode_9a6ad 1 [a0] (vI x :: st) mem = if x < 0 then ev X m_J1_canEncode_9a6ad 15 [a0] st mem else ev X m_J1_canEncode_9a6ad 4 [a0] st mem := ke_if_lt dJ1_canEncode_9a6ad_1 rfl
theorem eJ1_canEncode_9a6ad_4 : ev X m_J1_canEncode_9a6ad 4 [vI x] st mem = ev X m_J1_canEncode_9a6ad 5 [vI x] (vI x :: st) mem := ke_iload_n rfl dJ1_canEncode_9a6ad_4
theorem eJ1_canEncode_9a6ad_5 : ev X m_J1_canEncode_9a6ad 5 [a0] st mem = ev X m_J1_canEncode_9a6ad 8 [a0] (vI 255 :: st) mem := ke_sipush (by decide) dJ1_canEncode_9a6ad_5
theorem eJ1_canEncode_9a6ad_8 : ev X m_J1_canEncode_9a6ad 8 [a0] (vI y :: vI x :: st) mem = if y < x then ev X m_J1_canEncode_9a6ad 15 [a0] st mem else ev X m_J1_canEncode_9a6ad 11 [a0] st mem := ke_icmp_gt dJ1_canEncode_9a6ad_8 rfl
theorem eJ1_canEncode_9a6ad_11 : ev X m_J1_canEncode_9a6ad 11 [a0] st mem = ev X m_J1_canEncode_9a6ad 12 [a0] (vI 1 :: st) mem := ke_iconst (by decide) dJ1_canEncode_9a6ad_11
theorem eJ1_canEncode_9a6ad_12 : ev X m_J1_canEncode_9a6ad 12 [a0] st mem = ev X m_J1_canEncode_9a6ad 16 [a0] st mem := ke_goto dJ1_canEncode_9a6ad_12 rfl
theorem eJ1_canEncode_9a6ad_15 : ev X m_J1_canEncode_9a6ad 15 [a0] st mem = ev X m_J1_canEncode_9a6ad 16 [a0] (vI 0 :: st) mem := ke_iconst (by decide) dJ1_canEncode_9a6ad_15
theorem eJ1_canEncode_9a6ad_16a : ev X m_J1_canEncode_9a6ad 16 [a0] [vI 1] mem = some (some (vI 1), mem) := ke_zreturn dJ1_canEncode_9a6ad_16 rfl rfl
theorem eJ1_canEncode_9a6ad_16b : ev X m_J1_canEncode_9a6ad 16 [a0] [vI 0] mem = some (some (vI 0), mem) := ke_zreturn dJ1_canEncode_9a6ad_16 rfl rfl
theorem eJ1_canEncode_9a6ad_16c {c : Prop} [Decidable c] : ev X m_J1_canEncode_9a6ad 16 [a0] [vI (if c then 1 else 0)] mem = some (some (vI (if c then 1 else 0)), mem) := ke_zreturn dJ1_canEncode_9a6ad_16 rfl (by split <;> rfl)
theorem eJ1_indexOfChar_4cfef_0 : ev X m_J1_indexOfChar_4cfef 0 [a0, vI x, a2, a3, a4, a5] st mem = ev X m_J1_indexOfChar_4cfef 1 [a0, vI x, a2, a3, a4, a5] (vI x :: st) mem := ke_iload_n rfl dJ1_indexOfChar_4cfef_0
theorem eJ1_indexOfChar_4cfef_1 : ev X m_J1_indexOfChar_4cfef 1 [a0, a1, a2, a3, a4, a5] (vI x :: st) mem = ev X m_J1_indexOfChar_4cfef 2 [a0, a1, a2, a3, a4, a5] (vI (i2b32 x) :: st) mem := ke_i2b dJ1_indexOfChar_4cfef_1
theorem eJ1_indexOfChar_4cfef_2 : ev X m_J1_indexOfChar_4cfef 2 [a0, a1, a2, a3, a4, a5] (vI x :: st) mem = ev X m_J1_indexOfChar_4cfef 4 [a0, a1, a2, a3, vI x, a5] st mem := ke_istore (Nat.le_of_ble_eq_true rfl) rfl dJ1_indexOfChar_4cfef_2
theorem eJ1_indexOfChar_4cfef_4 : ev X m_J1_indexOfChar_4cfef 4 [a0, a1, vI x, a3, a4, a5] st mem = ev X m_J1_indexOfChar_4cfef 5 [a0, a1, vI x, a3, a4, a5] (vI x :: st) mem := ke_iload_n rfl dJ1_indexOfChar_4cfef_4
theorem eJ1_indexOfChar_4cfef_5 : ev X m_J1_indexOfChar_4cfef 5 [a0, a1, a2, a3, a4, a5] (vI x :: st) mem = ev X m_J1_indexOfChar_4cfef 7 [a0, a1, a2, a3, a4, vI x] st mem := ke_istore (Nat.le_of_ble_eq_true rfl) rfl dJ1_indexOfChar_4cfef_5
theorem eJ1_indexOfChar_4cfef_7 : ev X m_J1_indexOfChar_4cfef 7 [a0, a1, a2, a3, a4, vI x] st mem = ev X m_J1_indexOfChar_4cfef 9 [a0, a1, a2, a3, a4, vI x] (vI x :: st) mem := ke_iload rfl dJ1_indexOfChar_4cfef_7
theorem eJ1_indexOfChar_4cfef_9 : ev X m_J1_indexOfChar_4cfef 9 [a0, a1, a2, vI x, a4, a5] st mem = ev X m_J1_indexOfChar_4cfef 10 [a0, a1, a2, vI x, a4, a5] (vI x :: st) mem := ke_iload_n rfl dJ1_indexOfChar_4cfef_9
theorem eJ1_indexOfChar_4cfef_10 : ev X m_J1_indexOfChar_4cfef 10 [a0, a1, a2, a3, a4, a5] (vI y :: vI x :: st) mem = if x < y then ev X m_J1_indexOfChar_4cfef 13 [a0, a1, a2, a3, a4, a5] st mem else ev X m_J1_indexOfChar_4cfef 31 [a0, a1, a2, a3, a4, a5] st mem := ke_icmp_ge dJ1_indexOfChar_4cfef_10 rfl
theorem eJ1_indexOfChar_4cfef_13 : ev X m_J1_indexOfChar_4cfef 13 [vR r, a1, a2, a3, a4, a5] st mem = ev X m_J1_indexOfChar_4cfef 14 [vR r, a1, a2, a3, a4, a5] (vR r :: st) mem := ke_aload_n rfl dJ1_indexOfChar_4cfef_13
theorem eJ1_indexOfChar_4cfef_13x : ev X m_J1_indexOfChar_4cfef 13 [vX r, a1, a2, a3, a4, a5] st mem = ev X m_J1_indexOfChar_4cfef 14 [vX r, a1, a2, a3, a4, a5] (vX r :: st) mem := ke_xload_n rfl dJ1_indexOfChar_4cfef_13
theorem eJ1_indexOfChar_4cfef_14 : ev X m_J1_indexOfChar_4cfef 14 [a0, a1, a2, a3, a4, vI x] st mem = ev X m_J1_indexOfChar_4cfef 16 [a0, a1, a2, a3, a4, vI x] (vI x :: st) mem := ke_iload rfl dJ1_indexOfChar_4cfef_14
theorem eJ1_indexOfChar_4cfef_16 : ev X m_J1_indexOfChar_4cfef 16 [a0, a1, a2, a3, a4, a5] (vI x :: vX r :: st) mem = evb X (xget r x) m_J1_indexOfChar_4cfef 17 [a0, a1, a2, a3, a4, a5] st mem := ke_baload dJ1_indexOfChar_4cfef_16
theorem eJ1_indexOfChar_4cfef_17 : ev X m_J1_indexOfChar_4cfef 17 [a0, a1, a2, a3, vI x, a5] st mem = ev X m_J1_indexOfChar_4cfef 19 [a0, a1, a2, a3, vI x, a5] (vI x :: st) mem := ke_iload rfl dJ1_indexOfChar_4cfef_17
theorem eJ1_indexOfChar_4cfef_19 : ev X m_J1_indexOfChar_4cfef 19 [a0, a1, a2, a3, a4, a5] (vI y :: vI x :: st) mem = if x = y then ev X m_J1_indexOfChar_4cfef 22 [a0, a1, a2, a3, a4, a5] st mem else ev X m_J1_indexOfChar_4cfef 25 [a0, a1, a2, a3, a4, a5] st mem := ke_icmp_ne dJ1_indexOfChar_4cfef_19 rfl
theorem eJ1_indexOfChar_4cfef_22 : ev X m_J1_indexOfChar_4cfef 22 [a0, a1, a2, a3, a4, vI x] st mem = ev X m_J1_indexOfChar_4cfef 24 [a0, a1, a2, a3, a4, vI x] (vI x :: st) mem := ke_iload rfl dJ1_indexOfChar_4cfef_22
theorem eJ1_indexOfChar_4cfef_24 : ev X m_J1_indexOfChar_4cfef 24 [a0, a1, a2, a3, a4, a5] [vI x] mem = some (some (vI x), mem) := ke_ireturn dJ1_indexOfChar_4cfef_24 rfl
theorem eJ1_indexOfChar_4cfef_25 : ev X m_J1_indexOfChar_4cfef 25 [a0, a1, a2, a3, a4, vI x] st mem = ev X m_J1_indexOfChar_4cfef 28 [a0, a1, a2, a3, a4, vI (w32 (x + 1))] st mem := ke_iinc rfl (Nat.le_of_ble_eq_true rfl) rfl dJ1_indexOfChar_4cfef_25
theorem eJ1_indexOfChar_4cfef_28 : ev X m_J1_indexOfChar_4cfef 28 [a0, a1, a2, a3, a4, a5] st mem = ev X m_J1_indexOfChar_4cfef 7 [a0, a1, a2, a3, a4, a5] st mem := ke_goto dJ1_indexOfChar_4cfef_28 rfl
theorem eJ1_indexOfChar_4cfef_31 : ev X m_J1_indexOfChar_4cfef 31 [a0, a1, a2, a3, a4, a5] st mem = ev X m_J1_indexOfChar_4cfef 32 [a0, a1, a2, a3, a4, a5] (vI (-1) :: st) mem := ke_iconst (by decide) dJ1_indexOfChar_4cfef_31
theorem eJ1_indexOfChar_4cfef_32 : ev X m_J1_indexOfChar_4cfef 32 [a0, a1, a2, a3, a4, a5] [vI x] mem = some (some (vI x), mem) := ke_ireturn dJ1_indexOfChar_4cfef_32 rfl
theorem eX3_behind_0 : ev X m_X3_behind 0 [vR r, a1, a2] st mem = ev X m_X3_behind 1 [vR r, a1, a2] (vR r :: st) mem := ke_aload_n rfl dX3_behind_0
theorem eX3_behind_1 : ev X m_X3_behind 1 [a0, a1, a2] (vR r :: st) mem = evb X (fget mem r 3 0) m_X3_behind 4 [a0, a1, a2] st mem := ke_getf rfl dX3_behind_1
theorem eX3_behind_4 : ev X m_X3_behind 4 [a0, vR r, a2] st mem = ev X m_X3_behind 5 [a0, vR r, a2] (vR r :: st) mem := ke_aload_n rfl dX3_behind_4
theorem eX3_behind_5 : ev X m_X3_behind 5 [a0, a1, a2] (vR r0 :: vR r :: []) mem = evc X (gR mem r 0 (ev X m_X0_become 0 [vR r, vR r0] [] mem)) m_X3_behind 8 [a0, a1, a2] [] := ke_callV (m' := m_X0_become) (as := [vR r0]) (n := 1) (rest := []) dX3_behind_5 rfl rfl rfl rfl rfl rfl (Nat.le_of_ble_eq_true rfl) (Nat.le_of_ble_eq_true rfl) (Nat.le_of_ble_eq_true rfl) rfl
theorem eX3_behind_8 : ev X m_X3_behind 8 [vR r, a1, a2] st mem = ev X m_X3_behind 9 [vR r, a1, a2] (vR r :: st) mem := ke_aload_n rfl dX3_behind_8
theorem eX3_behind_9 : ev X m_X3_behind 9 [a0, a1, a2] (vR r :: st) mem = evb X (fget mem r 3 0) m_X3_behind 12 [a0, a1, a2] st mem := ke_getf rfl dX3_behind_9
theorem eX3_behind_12 : ev X m_X3_behind 12 [a0, a1, vI x] st mem = ev X m_X3_behind 13 [a0, a1, vI x] (vI x :: st) mem := ke_iload_n rfl dX3_behind_12
theorem eX3_behind_13 : ev X m_X3_behind 13 [a0, a1, a2] (vI n0 :: vR r :: []) mem = evc X (gR mem r 0 (ev X m_X0_passDays 0 [vR r, vI n0, vS] [] mem)) m_X3_behind 16 [a0, a1, a2] [] := ke_callV (m' := m_X0_passDays) (as := [vI n0]) (n := 1) (rest := []) dX3_behind_13 rfl rfl rfl rfl rfl rfl (Nat.le_of_ble_eq_true rfl) (Nat.le_of_ble_eq_true rfl) (Nat.le_of_ble_eq_true rfl) rfl
theorem eX3_behind_16 : ev X m_X3_behind 16 [vR r, a1, a2] st mem = ev X m_X3_behind 17 [vR r, a1, a2] (vR r :: st) mem := ke_aload_n rfl dX3_behind_16
theorem eX3_behind_17 : ev X m_X3_behind 17 [a0, a1, a2] (vR r :: st) mem = evb X (fget mem r 3 0) m_X3_behind 20 [a0, a1, a2] st mem := ke_getf rfl dX3_behind_17
theorem eX3_behind_20 : ev X m_X3_behind 20 [a0, a1, a2] [vR r] mem = some (some (vR r), mem) := ke_areturn dX3_behind_20 rfl
theorem eX0_become_0 : ev X m_X0_become 0 [a0, vR r] st mem = ev X m_X0_become 1 [a0, vR r] (vR r :: st) mem := ke_aload_n rfl dX0_become_0
theorem eX0_become_1 : ev X m_X0_become 1 [a0, a1] (vR r :: st) mem = ev X m_X0_become 5 [a0, a1] st mem := ke_ifnonnull dX0_become_1 rfl
theorem eX0_become_4 : ev X m_X0_become 4 [a0, a1] [] mem = some (none, mem) := ke_return dX0_become_4 rfl
theorem eX0_become_5 : ev X m_X0_become 5 [vR r, a1] st mem = ev X m_X0_become 6 [vR r, a1] (vR r :: st) mem := ke_aload_n rfl dX0_become_5
theorem eX0_become_6 : ev X m_X0_become 6 [a0, vR r] st mem = ev X m_X0_become 7 [a0, vR r] (vR r :: st) mem := ke_aload_n rfl dX0_become_6
theorem eX0_become_7 : ev X m_X0_become 7 [a0, a1] (vR r :: st) mem = evb X (fget mem r 0 0) m_X0_become 10 [a0, a1] st mem := ke_getf rfl dX0_become_7
theorem eX0_become_10 : ev X m_X0_become 10 [a0, a1] (vI x :: vR r :: st) mem = evm X (fput mem r 0 0 (vI x)) m_X0_become 13 [a0, a1] st := ke_putf rfl (by decide +kernel) dX0_become_10
theorem eX0_become_13 : ev X m_X0_become 13 [vR r, a1] st mem = ev X m_X0_become 14 [vR r, a1] (vR r :: st) mem := ke_aload_n rfl dX0_become_13
theorem eX0_become_14 : ev X m_X0_become 14 [a0, vR r] st mem = ev X m_X0_become 15 [a0, vR r] (vR r :: st) mem := ke_aload_n rfl dX0_become_14
theorem eX0_become_15 : ev X m_X0_become 15 [a0, a1] (vR r :: st) mem = evb X (fget mem r 0 1) m_X0_become 18 [a0, a1] st mem := ke_getf rfl dX0_become_15
theorem eX0_become_18 : ev X m_X0_become 18 [a0, a1] (vI x :: vR r :: st) mem = evm X (fput mem r 0 1 (vI x)) m_X0_become 21 [a0, a1] st := ke_putf rfl (by decide +kernel) dX0_become_18
theorem eX0_become_21 : ev X m_X0_become 21 [vR r, a1] st mem = ev X m_X0_become 22 [vR r, a1] (vR r :: st) mem := ke_aload_n rfl dX0_become_21
theorem eX0_become_22 : ev X m_X0_become 22 [a0, vR r] st mem = ev X m_X0_become 23 [a0, vR r] (vR r :: st) mem := ke_aload_n rfl dX0_become_22
theorem eX0_become_23 : ev X m_X0_become 23 [a0, a1] (vR r :: st) mem = evb X (fget mem r 0 2) m_X0_become 26 [a0, a1] st mem := ke_getf rfl dX0_become_23
theorem eX0_become_26 : ev X m_X0_become 26 [a0, a1] (vI x :: vR r :: st) mem = evm X (fput mem r 0 2 (vI x)) m_X0_become 29 [a0, a1] st := ke_putf rfl (by decide +kernel) dX0_become_26
theorem eX0_become_29 : ev X m_X0_become 29 [a0, vR r] st mem = ev X m_X0_become 30 [a0, vR r] (vR r :: st) mem := ke_aload_n rfl dX0_become_29
theorem eX0_become_30 : ev X m_X0_become 30 [a0, a1] (vR r :: st) mem = evb X (fget mem r 0 3) m_X0_become 33 [a0, a1] st mem := ke_getf rfl dX0_become_30
theorem eX0_become_33 : ev X m_X0_become 33 [a0, a1] st mem = ev X m_X0_become 34 [a0, a1] (vI 0 :: st) mem := ke_iconst (by decide) dX0_become_33
theorem eX0_become_34 : ev X m_X0_become 34 [vR r, a1] st mem = ev X m_X0_become 35 [vR r, a1] (vR r :: st) mem := ke_aload_n rfl dX0_become_34
theorem eX0_become_35 : ev X m_X0_become 35 [a0, a1] (vR r :: st) mem = evb X (fget mem r 0 3) m_X0_become 38 [a0, a1] st mem := ke_getf rfl dX0_become_35
theorem eX0_become_38 : ev X m_X0_become 38 [a0, a1] st mem = ev X m_X0_become 39 [a0, a1] (vI 0 :: st) mem := ke_iconst (by decide) dX0_become_38
theorem eX0_become_39 : ev X m_X0_become 39 [a0, a1] st mem = ev X m_X0_become 41 [a0, a1] (vI 6 :: st) mem := ke_bipush (by decide) dX0_become_39
theorem eX0_become_41 : ev X m_X0_become 41 [a0, a1] (vI n4 :: vI n3 :: vR r2 :: vI n1 :: vR r :: []) mem = evm X (acpy mem r n1 r2 n3 n4) m_X0_become 44 [a0, a1] [] := ke_copy rfl rfl (Nat.le_of_ble_eq_true rfl) (Nat.le_of_ble_eq_true rfl) (Nat.le_of_ble_eq_true rfl) dX0_become_41
theorem eX0_become_44 : ev X m_X0_become 44 [a0, vR r] st mem = ev X m_X0_become 45 [a0, vR r] (vR r :: st) mem := ke_aload_n rfl dX0_become_44
theorem eX0_become_45 : ev X m_X0_become 45 [a0, a1] (vR r :: st) mem = evb X (fget mem r 0 4) m_X0_become 48 [a0, a1] st mem := ke_getf rfl dX0_become_45
theorem eX0_become_48 : ev X m_X0_become 48 [a0, a1] st mem = ev X m_X0_become 49 [a0, a1] (vI 0 :: st) mem := ke_iconst (by decide) dX0_become_48
theorem eX0_become_49 : ev X m_X0_become 49 [vR r, a1] st mem = ev X m_X0_become 50 [vR r, a1] (vR r :: st) mem := ke_aload_n rfl dX0_become_49
theorem eX0_become_50 : ev X m_X0_become 50 [a0, a1] (vR r :: st) mem = evb X (fget mem r 0 4) m_X0_become 53 [a0, a1] st mem := ke_getf rfl dX0_become_50
theorem eX0_become_53 : ev X m_X0_become 53 [a0, a1] st mem = ev X m_X0_become 54 [a0, a1] (vI 0 :: st) mem := ke_iconst (by decide) dX0_become_53
theorem eX0_become_54 : ev X m_X0_become 54 [a0, a1] st mem = ev X m_X0_become 56 [a0, a1] (vI 6 :: st) mem := ke_bipush (by decide) dX0_become_54
theorem eX0_become_56 : ev X m_X0_become 56 [a0, a1] (vI n4 :: vI n3 :: vR r2 :: vI n1 :: vR r :: []) mem = evm X (acpy mem r n1 r2 n3 n4) m_X0_become 59 [a0, a1] [] := ke_copy rfl rfl (Nat.le_of_ble_eq_true rfl) (Nat.le_of_ble_eq_true rfl) (Nat.le_of_ble_eq_true rfl) dX0_become_56
theorem eX0_become_59 : ev X m_X0_become 59 [a0, vR r] st mem = ev X m_X0_become 60 [a0, vR r] (vR r :: st) mem := ke_aload_n rfl dX0_become_59
theorem eX0_become_60 : ev X m_X0_become 60 [a0, a1] (vR r :: st) mem = evb X (fget mem r 0 5) m_X0_become 63 [a0, a1] st mem := ke_getf rfl dX0_become_60
theorem eX0_become_63 : ev X m_X0_become 63 [a0, a1] st mem = ev X m_X0_become 64 [a0, a1] (vI 0 :: st) mem := ke_iconst (by decide) dX0_become_63
theorem eX0_become_64 : ev X m_X0_become 64 [vR r, a1] st mem = ev X m_X0_become 65 [vR r, a1] (vR r :: st) mem := ke_aload_n rfl dX0_become_64
theorem eX0_become_65 : ev X m_X0_become 65 [a0, a1] (vR r :: st) mem = evb X (fget mem r 0 5) m_X0_become 68 [a0, a1] st mem := ke_getf rfl dX0_become_65
theorem eX0_become_68 : ev X m_X0_become 68 [a0, a1] st mem = ev X m_X0_become 69 [a0, a1] (vI 0 :: st) mem := ke_iconst (by decide) dX0_become_68
theorem eX0_become_69 : ev X m_X0_become 69 [a0, a1] st mem = ev X m_X0_become 71 [a0, a1] (vI 6 :: st) mem := ke_bipush (by decide) dX0_become_69
theorem eX0_become_71 : ev X m_X0_become 71 [a0, a1] (vI n4 :: vI n3 :: vR r2 :: vI n1 :: vR r :: []) mem = evm X (acpy mem r n1 r2 n3 n4) m_X0_become 74 [a0, a1] [] := ke_copy rfl rfl (Nat.le_of_ble_eq_true rfl) (Nat.le_of_ble_eq_true rfl) (Nat.le_of_ble_eq_true rfl) dX0_become_71
theorem eX0_become_74 : ev X m_X0_become 74 [a0, vR r] st mem = ev X m_X0_become 75 [a0, vR r] (vR r :: st) mem := ke_aload_n rfl dX0_become_74
theorem eX0_become_75 : ev X m_X0_become 75 [a0, a1] (vR r :: st) mem = evb X (fget mem r 0 6) m_X0_become 78 [a0, a1] st mem := ke_getf rfl dX0_become_75
theorem eX0_become_78 : ev X m_X0_become 78 [a0, a1] st mem = ev X m_X0_become 79 [a0, a1] (vI 0 :: st) mem := ke_iconst (by decide) dX0_become_78
theorem eX0_become_79 : ev X m_X0_become 79 [vR r, a1] st mem = ev X m_X0_become 80 [vR r, a1] (vR r :: st) mem := ke_aload_n rfl dX0_become_79
theorem eX0_become_80 : ev X m_X0_become 80 [a0, a1] (vR r :: st) mem = evb X (fget mem r 0 6) m_X0_become 83 [a0, a1] st mem := ke_getf rfl dX0_become_80
theorem eX0_become_83 : ev X m_X0_become 83 [a0, a1] st mem = ev X m_X0_become 84 [a0, a1] (vI 0 :: st) mem := ke_iconst (by decide) dX0_become_83
theorem eX0_become_84 : ev X m_X0_become 84 [a0, a1] st mem = ev X m_X0_become 86 [a0, a1] (vI 6 :: st) mem := ke_bipush (by decide) dX0_become_84
theorem eX0_become_86 : ev X m_X0_become 86 [a0, a1] (vI n4 :: vI n3 :: vR r2 :: vI n1 :: vR r :: []) mem = evm X (acpy mem r n1 r2 n3 n4) m_X0_become 89 [a0, a1] [] := ke_copy rfl rfl (Nat.le_of_ble_eq_true rfl) (Nat.le_of_ble_eq_true rfl) (Nat.le_of_ble_eq_true rfl) dX0_become_86
theorem eX0_become_89 : ev X m_X0_become 89 [a0, vR r] st mem = ev X m_X0_become 90 [a0, vR r] (vR r :: st) mem := ke_aload_n rfl dX0_become_89
theorem eX0_become_90 : ev X m_X0_become 90 [a0, a1] (vR r :: st) mem = evb X (fget mem r 0 7) m_X0_become 93 [a0, a1] st mem := ke_getf rfl dX0_become_90
theorem eX0_become_93 : ev X m_X0_become 93 [a0, a1] st mem = ev X m_X0_become 94 [a0, a1] (vI 0 :: st) mem := ke_iconst (by decide) dX0_become_93
theorem eX0_become_94 : ev X m_X0_become 94 [vR r, a1] st mem = ev X m_X0_become 95 [vR r, a1] (vR r :: st) mem := ke_aload_n rfl dX0_become_94
theorem eX0_become_95 : ev X m_X0_become 95 [a0, a1] (vR r :: st) mem = evb X (fget mem r 0 7) m_X0_become 98 [a0, a1] st mem := ke_getf rfl dX0_become_95
theorem eX0_become_98 : ev X m_X0_become 98 [a0, a1] st mem = ev X m_X0_become 99 [a0, a1] (vI 0 :: st) mem := ke_iconst (by decide) dX0_become_98
theorem eX0_become_99 : ev X m_X0_become 99 [a0, a1] st mem = ev X m_X0_become 101 [a0, a1] (vI 36 :: st) mem := ke_bipush (by decide) dX0_become_99
theorem eX0_become_101 : ev X m_X0_become 101 [a0, a1] (vI n4 :: vI n3 :: vR r2 :: vI n1 :: vR r :: []) mem = evm X (acpy mem r n1 r2 n3 n4) m_X0_become 104 [a0, a1] [] := ke_copy rfl rfl (Nat.le_of_ble_eq_true rfl) (Nat.le_of_ble_eq_true rfl) (Nat.le_of_ble_eq_true rfl) dX0_become_101
theorem eX0_become_104 : ev X m_X0_become 104 [a0, vR r] st mem = ev X m_X0_become 105 [a0, vR r] (vR r :: st) mem := ke_aload_n rfl dX0_become_104
theorem eX0_become_105 : ev X m_X0_become 105 [a0, a1] (vR r :: st) mem = evb X (fget mem r 0 8) m_X0_become 108 [a0, a1] st mem := ke_getf rfl dX0_become_105
theorem eX0_become_108 : ev X m_X0_become 108 [a0, a1] st mem = ev X m_X0_become 109 [a0, a1] (vI 0 :: st) mem := ke_iconst (by decide) dX0_become_108
theorem eX0_become_109 : ev X m_X0_become 109 [vR r, a1] st mem = ev X m_X0_become 110 [vR r, a1] (vR r :: st) mem := ke_aload_n rfl dX0_become_109
theorem eX0_become_110 : ev X m_X0_become 110 [a0, a1] (vR r :: st) mem = evb X (fget mem r 0 8) m_X0_become 113 [a0, a1] st mem := ke_getf rfl dX0_become_110
theorem eX0_become_113 : ev X m_X0_become 113 [a0, a1] st mem = ev X m_X0_become 114 [a0, a1] (vI 0 :: st) mem := ke_iconst (by decide) dX0_become_113
theorem eX0_become_114 : ev X m_X0_become 114 [a0, a1] st mem = ev X m_X0_become 116 [a0, a1] (vI 8 :: st) mem := ke_bipush (by decide) dX0_become_114
theorem eX0_become_116 : ev X m_X0_become 116 [a0, a1] (vI n4 :: vI n3 :: vR r2 :: vI n1 :: vR r :: []) mem = evm X (acpy mem r n1 r2 n3 n4) m_X0_become 119 [a0, a1] [] := ke_copy rfl rfl (Nat.le_of_ble_eq_true rfl) (Nat.le_of_ble_eq_true rfl) (Nat.le_of_ble_eq_true rfl) dX0_become_116
theorem eX0_become_119 : ev X m_X0_become 119 [a0, vR r] st mem = ev X m_X0_become 120 [a0, vR r] (vR r :: st) mem := ke_aload_n rfl dX0_become_119
theorem eX0_become_120 : ev X m_X0_become 120 [a0, a1] (vR r :: st) mem = evb X (fget mem r 0 9) m_X0_become 123 [a0, a1] st mem := ke_getf rfl dX0_become_120
theorem eX0_become_123 : ev X m_X0_become 123 [a0, a1] st mem = ev X m_X0_become 124 [a0, a1] (vI 0 :: st) mem := ke_iconst (by decide) dX0_become_123
theorem eX0_become_124 : ev X m_X0_become 124 [vR r, a1] st mem = ev X m_X0_become 125 [vR r, a1] (vR r :: st) mem := ke_aload_n rfl dX0_become_124
theorem eX0_become_125 : ev X m_X0_become 125 [a0, a1] (vR r :: st) mem = evb X (fget mem r 0 9) m_X0_become 128 [a0, a1] st mem := ke_getf rfl dX0_become_125
theorem eX0_become_128 : ev X m_X0_become 128 [a0, a1] st mem = ev X m_X0_become 129 [a0, a1] (vI 0 :: st) mem := ke_iconst (by decide) dX0_become_128
theorem eX0_become_129 : ev X m_X0_become 129 [a0, a1] st mem = ev X m_X0_become 131 [a0, a1] (vI 8 :: st) mem := ke_bipush (by decide) dX0_become_129
theorem eX0_become_131 : ev X m_X0_become 131 [a0, a1] (vI n4 :: vI n3 :: vR r2 :: vI n1 :: vR r :: []) mem = evm X (acpy mem r n1 r2 n3 n4) m_X0_become 134 [a0, a1] [] := ke_copy rfl rfl (Nat.le_of_ble_eq_true rfl) (Nat.le_of_ble_eq_true rfl) (Nat.le_of_ble_eq_true rfl) dX0_become_131
theorem eX0_become_134 : ev X m_X0_become 134 [a0, vR r] st mem = ev X m_X0_become 135 [a0, vR r] (vR r :: st) mem := ke_aload_n rfl dX0_become_134
theorem eX0_become_135 : ev X m_X0_become 135 [a0, a1] (vR r :: st) mem = evb X (fget mem r 0 10) m_X0_become 138 [a0, a1] st mem := ke_getf rfl dX0_become_135
theorem eX0_become_138 : ev X m_X0_become 138 [a0, a1] st mem = ev X m_X0_become 139 [a0, a1] (vI 0 :: st) mem := ke_iconst (by decide) dX0_become_138
theorem eX0_become_139 : ev X m_X0_become 139 [vR r, a1] st mem = ev X m_X0_become 140 [vR r, a1] (vR r :: st) mem := ke_aload_n rfl dX0_become_139
theorem eX0_become_140 : ev X m_X0_become 140 [a0, a1] (vR r :: st) mem = evb X (fget mem r 0 10) m_X0_become 143 [a0, a1] st mem := ke_getf rfl dX0_become_140
theorem eX0_become_143 : ev X m_X0_become 143 [a0, a1] st mem = ev X m_X0_become 144 [a0, a1] (vI 0 :: st) mem := ke_iconst (by decide) dX0_become_143
theorem eX0_become_144 : ev X m_X0_become 144 [a0, a1] st mem = ev X m_X0_become 146 [a0, a1] (vI 8 :: st) mem := ke_bipush (by decide) dX0_become_144
theorem eX0_become_146 : ev X m_X0_become 146 [a0, a1] (vI n4 :: vI n3 :: vR r2 :: vI n1 :: vR r :: []) mem = evm X (acpy mem r n1 r2 n3 n4) m_X0_become 149 [a0, a1] [] := ke_copy rfl rfl (Nat.le_of_ble_eq_true rfl) (Nat.le_of_ble_eq_true rfl) (Nat.le_of_ble_eq_true rfl) dX0_become_146
theorem eX0_become_149 : ev X m_X0_become 149 [a0, vR r] st mem = ev X m_X0_become 150 [a0, vR r] (vR r :: st) mem := ke_aload_n rfl dX0_become_149
theorem eX0_become_150 : ev X m_X0_become 150 [a0, a1] (vR r :: st) mem = evb X (fget mem r 0 11) m_X0_become 153 [a0, a1] st mem := ke_getf rfl dX0_become_150
theorem eX0_become_153 : ev X m_X0_become 153 [a0, a1] st mem = ev X m_X0_become 154 [a0, a1] (vI 0 :: st) mem := ke_iconst (by decide) dX0_become_153
theorem eX0_become_154 : ev X m_X0_become 154 [vR r, a1] st mem = ev X m_X0_become 155 [vR r, a1] (vR r :: st) mem := ke_aload_n rfl dX0_become_154
theorem eX0_become_155 : ev X m_X0_become 155 [a0, a1] (vR r :: st) mem = evb X (fget mem r 0 11) m_X0_become 158 [a0, a1] st mem := ke_getf rfl dX0_become_155
theorem eX0_become_158 : ev X m_X0_become 158 [a0, a1] st mem = ev X m_X0_become 159 [a0, a1] (vI 0 :: st) mem := ke_iconst (by decide) dX0_become_158
theorem eX0_become_159 : ev X m_X0_become 159 [a0, a1] st mem = ev X m_X0_become 161 [a0, a1] (vI 8 :: st) mem := ke_bipush (by decide) dX0_become_159
theorem eX0_become_161 : ev X m_X0_become 161 [a0, a1] (vI n4 :: vI n3 :: vR r2 :: vI n1 :: vR r :: []) mem = evm X (acpy mem r n1 r2 n3 n4) m_X0_become 164 [a0, a1] [] := ke_copy rfl rfl (Nat.le_of_ble_eq_true rfl) (Nat.le_of_ble_eq_true rfl) (Nat.le_of_ble_eq_true rfl) dX0_become_161
theorem eX0_become_164 : ev X m_X0_become 164 [a0, vR r] st mem = ev X m_X0_become 165 [a0, vR r] (vR r :: st) mem := ke_aload_n rfl dX0_become_164
theorem eX0_become_165 : ev X m_X0_become 165 [a0, a1] (vR r :: st) mem = evb X (fget mem r 0 12) m_X0_become 168 [a0, a1] st mem := ke_getf rfl dX0_become_165
theorem eX0_become_168 : ev X m_X0_become 168 [a0, a1] st mem = ev X m_X0_become 169 [a0, a1] (vI 0 :: st) mem := ke_iconst (by decide) dX0_become_168
theorem eX0_become_169 : ev X m_X0_become 169 [vR r, a1] st mem = ev X m_X0_become 170 [vR r, a1] (vR r :: st) mem := ke_aload_n rfl dX0_become_169
theorem eX0_become_170 : ev X m_X0_become 170 [a0, a1] (vR r :: st) mem = evb X (fget mem r 0 12) m_X0_become 173 [a0, a1] st mem := ke_getf rfl dX0_become_170
theorem eX0_become_173 : ev X m_X0_become 173 [a0, a1] st mem = ev X m_X0_become 174 [a0, a1] (vI 0 :: st) mem := ke_iconst (by decide) dX0_become_173
theorem eX0_become_174 : ev X m_X0_become 174 [a0, a1] st mem = ev X m_X0_become 176 [a0, a1] (vI 8 :: st) mem := ke_bipush (by decide) dX0_become_174
theorem eX0_become_176 : ev X m_X0_become 176 [a0, a1] (vI n4 :: vI n3 :: vR r2 :: vI n1 :: vR r :: []) mem = evm X (acpy mem r n1 r2 n3 n4) m_X0_become 179 [a0, a1] [] := ke_copy rfl rfl (Nat.le_of_ble_eq_true rfl) (Nat.le_of_ble_eq_true rfl) (Nat.le_of_ble_eq_true rfl) dX0_become_176
theorem eX0_become_179 : ev X m_X0_become 179 [a0, a1] [] mem = some (none, mem) := ke_return dX0_become_179 rfl
theorem eX0_passDays_0 : ev X m_X0_passDays 0 [a0, a1, a2] st mem = ev X m_X0_passDays 1 [a0, a1, a2] (vI 0 :: st) mem := ke_iconst (by decide) dX0_passDays_0
theorem eX0_passDays_1 : ev X m_X0_passDays 1 [a0, a1, a2] (vI x :: st) mem = ev X m_X0_passDays 2 [a0, a1, vI x] st mem := ke_istore_n (Nat.le_of_ble_eq_true rfl) rfl dX0_passDays_1
theorem eX0_passDays_2 : ev X m_X0_passDays 2 [a0, a1, vI x] st mem = ev X m_X0_passDays 3 [a0, a1, vI x] (vI x :: st) mem := ke_iload_n rfl dX0_passDays_2
theorem eX0_passDays_3 : ev X m_X0_passDays 3 [a0, vI x, a2] st mem = ev X m_X0_passDays 4 [a0, vI x, a2] (vI x :: st) mem := ke_iload_n rfl dX0_passDays_3
theorem eX0_passDays_4 : ev X m_X0_passDays 4 [a0, a1, a2] (vI y :: vI x :: st) mem = if x < y then ev X m_X0_passDays 7 [a0, a1, a2] st mem else ev X m_X0_passDays 18 [a0, a1, a2] st mem := ke_icmp_ge dX0_passDays_4 rfl
theorem eX0_passDays_7 : ev X m_X0_passDays 7 [vR r, a1, a2] st mem = ev X m_X0_passDays 8 [vR r, a1, a2] (vR r :: st) mem := ke_aload_n rfl dX0_passDays_7
theorem eX0_passDays_8 : ev X m_X0_passDays 8 [a0, a1, a2] st mem = ev X m_X0_passDays 9 [a0, a1, a2] (vI 0 :: st) mem := ke_iconst (by decide) dX0_passDays_8
theorem eX0_passDays_9 : ev X m_X0_passDays 9 [a0, a1, a2] (vI n0 :: vR r :: []) mem = evc X (gR mem r 0 (ev X m_X0_passDay 0 [vR r, vI n0] [] mem)) m_X0_passDays 12 [a0, a1, a2] [] := ke_callV (m' := m_X0_passDay) (as := [vI n0]) (n := 1) (rest := []) dX0_passDays_9 rfl rfl rfl rfl rfl rfl (Nat.le_of_ble_eq_true rfl) (Nat.le_of_ble_eq_true rfl) (Nat.le_of_ble_eq_true rfl) rfl
theorem eX0_passDays_12 : ev X m_X0_passDays 12 [a0, a1, vI x] st mem = ev X m_X0_passDays 15 [a0, a1, vI (w32 (x + 1))] st mem := ke_iinc rfl (Nat.le_of_ble_eq_true rfl) rfl dX0_passDays_12
theorem eX0_passDays_15 : ev X m_X0_passDays 15 [a0, a1, a2] st mem = ev X m_X0_passDays 2 [a0, a1, a2] st mem := ke_goto dX0_passDays_15 rfl
theorem eX0_passDays_18 : ev X m_X0_passDays 18 [a0, a1, a2] [] mem = some (none, mem) := ke_return dX0_passDays_18 rfl
theorem eX0_passDay_0 : ev X m_X0_passDay 0 [vR r, a1] st mem = ev X m_X0_passDay 1 [vR r, a1] (vR r :: st) mem := ke_aload_n rfl dX0_passDay_0
theorem eX0_passDay_1 : ev X m_X0_passDay 1 [a0, a1] (vI x :: st) mem = ev X m_X0_passDay 2 [a0, a1] (vI x :: vI x :: st) mem := ke_dupI dX0_passDay_1
theorem eX0_passDay_1r : ev X m_X0_passDay 1 [a0, a1] (vR r :: st) mem = ev X m_X0_passDay 2 [a0, a1] (vR r :: vR r :: st) mem := ke_dupR dX0_passDay_1
theorem eX0_passDay_2 : ev X m_X0_passDay 2 [a0, a1] (vR r :: st) mem = evb X (fget mem r 0 2) m_X0_passDay 5 [a0, a1] st mem := ke_getf rfl dX0_passDay_2
theorem eX0_passDay_5 : ev X m_X0_passDay 5 [a0, a1] st mem = ev X m_X0_passDay 6 [a0, a1] (vI 1 :: st) mem := ke_iconst (by decide) dX0_passDay_5
theorem eX0_passDay_6 : ev X m_X0_passDay 6 [a0, a1] (vI y :: vI x :: st) mem = ev X m_X0_passDay 7 [a0, a1] (vI (w32 (x + y)) :: st) mem := ke_iadd dX0_passDay_6
theorem eX0_passDay_7 : ev X m_X0_passDay 7 [a0, a1] (vI x :: vR r :: st) mem = evm X (fput mem r 0 2 (vI x)) m_X0_passDay 10 [a0, a1] st := ke_putf rfl (by decide +kernel) dX0_passDay_7
theorem eX0_passDay_10 : ev X m_X0_passDay 10 [a0, vI x] st mem = ev X m_X0_passDay 11 [a0, vI x] (vI x :: st) mem := ke_iload_n rfl dX0_passDay_10
theorem eX0_passDay_11 : ev X m_X0_passDay 11 [a0, a1] (vI x :: st) mem = if x = 0 then ev X m_X0_passDay 14 [a0, a1] st mem else ev X m_X0_passDay 18 [a0, a1] st mem := ke_if_ne dX0_passDay_11 rfl
theorem eX0_passDay_14 : ev X m_X0_passDay 14 [vR r, a1] st mem = ev X m_X0_passDay 15 [vR r, a1] (vR r :: st) mem := ke_aload_n rfl dX0_passDay_14
theorem eX0_passDay_15 : ev X m_X0_passDay 15 [a0, a1] (vR r :: []) mem = evc X (gR mem r 0 (ev X m_X0_carryOn 0 [vR r, vS, vS] [] mem)) m_X0_passDay 18 [a0, a1] [] := ke_callV (m' := m_X0_carryOn) (as := []) (n := 0) (rest := []) dX0_passDay_15 rfl rfl rfl rfl rfl rfl (Nat.le_of_ble_eq_true rfl) (Nat.le_of_ble_eq_true rfl) (Nat.le_of_ble_eq_true rfl) rfl
theorem eX0_passDay_18 : ev X m_X0_passDay 18 [vR r, a1] st mem = ev X m_X0_passDay 19 [vR r, a1] (vR r :: st) mem := ke_aload_n rfl dX0_passDay_18
theorem eX0_passDay_19 : ev X m_X0_passDay 19 [a0, a1] (vR r :: []) mem = evc X (gR mem r 0 (ev X m_X0_giveOut 0 [vR r, vS, vS] [] mem)) m_X0_passDay 22 [a0, a1] [] := ke_callV (m' := m_X0_giveOut) (as := []) (n := 0) (rest := []) dX0_passDay_19 rfl rfl rfl rfl rfl rfl (Nat.le_of_ble_eq_true rfl) (Nat.le_of_ble_eq_true rfl) (Nat.le_of_ble_eq_true rfl) rfl
theorem eX0_passDay_22 : ev X m_X0_passDay 22 [vR r, a1] st mem = ev X m_X0_passDay 23 [vR r, a1] (vR r :: st) mem := ke_aload_n rfl dX0_passDay_22
theorem eX0_passDay_23 : ev X m_X0_passDay 23 [a0, a1] (vR r :: st) mem = evb X (fget mem r 0 2) m_X0_passDay 26 [a0, a1] st mem := ke_getf rfl dX0_passDay_23
theorem eX0_passDay_26 : ev X m_X0_passDay 26 [a0, a1] st mem = ev X m_X0_passDay 28 [a0, a1] (vI 7 :: st) mem := ke_bipush (by decide) dX0_passDay_26
theorem eX0_passDay_28 : ev X m_X0_passDay 28 [a0, a1] (vI y :: vI x :: st) mem = if y = 0 then none else ev X m_X0_passDay 29 [a0, a1] (vI (w32 (x.tmod y)) :: st) mem := ke_irem dX0_passDay_28
theorem eX0_passDay_29 : ev X m_X0_passDay 29 [a0, a1] (vI x :: st) mem = if x = 0 then ev X m_X0_passDay 32 [a0, a1] st mem else ev X m_X0_passDay 36 [a0, a1] st mem := ke_if_ne dX0_passDay_29 rfl
theorem eX0_passDay_32 : ev X m_X0_passDay 32 [vR r, a1] st mem = ev X m_X0_passDay 33 [vR r, a1] (vR r :: st) mem := ke_aload_n rfl dX0_passDay_32
theorem eX0_passDay_33 : ev X m_X0_passDay 33 [a0, a1] (vR r :: []) mem = evc X (gR mem r 0 (ev X m_X0_coolDown 0 [vR r, vS] [] mem)) m_X0_passDay 36 [a0, a1] [] := ke_callV (m' := m_X0_coolDown) (as := []) (n := 0) (rest := []) dX0_passDay_33 rfl rfl rfl rfl rfl rfl (Nat.le_of_ble_eq_true rfl) (Nat.le_of_ble_eq_true rfl) (Nat.le_of_ble_eq_true rfl) rfl
theorem eX0_passDay_36 : ev X m_X0_passDay 36 [a0, a1] [] mem = some (none, mem) := ke_return dX0_passDay_36 rfl
theorem eX0_carryOn_0 : ev X m_X0_carryOn 0 [a0, a1, a2] st mem = ev X m_X0_carryOn 1 [a0, a1, a2] (vI 0 :: st) mem := ke_iconst (by decide) dX0_carryOn_0
theorem eX0_carryOn_1 : ev X m_X0_carryOn 1 [a0, a1, a2] (vI x :: st) mem = ev X m_X0_carryOn 2 [a0, vI x, a2] st mem := ke_istore_n (Nat.le_of_ble_eq_true rfl) rfl dX0_carryOn_1
theorem eX0_carryOn_2 : ev X m_X0_carryOn 2 [a0, vI x, a2] st mem = ev X m_X0_carryOn 3 [a0, vI x, a2] (vI x :: st) mem := ke_iload_n rfl dX0_carryOn_2
theorem eX0_carryOn_3 : ev X m_X0_carryOn 3 [vR r, a1, a2] st mem = ev X m_X0_carryOn 4 [vR r, a1, a2] (vR r :: st) mem := ke_aload_n rfl dX0_carryOn_3
theorem eX0_carryOn_4 : ev X m_X0_carryOn 4 [a0, a1, a2] (vR r :: st) mem = evb X (fget mem r 0 1) m_X0_carryOn 7 [a0, a1, a2] st mem := ke_getf rfl dX0_carryOn_4
theorem eX0_carryOn_7 : ev X m_X0_carryOn 7 [a0, a1, a2] (vI y :: vI x :: st) mem = if x < y then ev X m_X0_carryOn 10 [a0, a1, a2] st mem else ev X m_X0_carryOn 119 [a0, a1, a2] st mem := ke_icmp_ge dX0_carryOn_7 rfl
theorem eX0_carryOn_10 : ev X m_X0_carryOn 10 [vR r, a1, a2] st mem = ev X m_X0_carryOn 11 [vR r, a1, a2] (vR r :: st) mem := ke_aload_n rfl dX0_carryOn_10
theorem eX0_carryOn_11 : ev X m_X0_carryOn 11 [a0, a1, a2] (vR r :: st) mem = evb X (fget mem r 0 10) m_X0_carryOn 14 [a0, a1, a2] st mem := ke_getf rfl dX0_carryOn_11
theorem eX0_carryOn_14 : ev X m_X0_carryOn 14 [a0, vI x, a2] st mem = ev X m_X0_carryOn 15 [a0, vI x, a2] (vI x :: st) mem := ke_iload_n rfl dX0_carryOn_14
theorem eX0_carryOn_15 : ev X m_X0_carryOn 15 [a0, a1, a2] (vI x :: vR r :: st) mem = evb X (aget mem r x) m_X0_carryOn 16 [a0, a1, a2] st mem := ke_iaload dX0_carryOn_15
theorem eX0_carryOn_16 : ev X m_X0_carryOn 16 [a0, a1, a2] st mem = ev X m_X0_carryOn 17 [a0, a1, a2] (vI 1 :: st) mem := ke_iconst (by decide) dX0_carryOn_16
theorem eX0_carryOn_17 : ev X m_X0_carryOn 17 [a0, a1, a2] (vI y :: vI x :: st) mem = if x = y then ev X m_X0_carryOn 23 [a0, a1, a2] st mem else ev X m_X0_carryOn 20 [a0, a1, a2] st mem := ke_icmp_eq dX0_carryOn_17 rfl
theorem eX0_carryOn_20 : ev X m_X0_carryOn 20 [a0, a1, a2] st mem = ev X m_X0_carryOn 113 [a0, a1, a2] st mem := ke_goto dX0_carryOn_20 rfl
theorem eX0_carryOn_23 : ev X m_X0_carryOn 23 [vR r, a1, a2] st mem = ev X m_X0_carryOn 24 [vR r, a1, a2] (vR r :: st) mem := ke_aload_n rfl dX0_carryOn_23
theorem eX0_carryOn_24 : ev X m_X0_carryOn 24 [a0, a1, a2] (vR r :: st) mem = evb X (fget mem r 0 12) m_X0_carryOn 27 [a0, a1, a2] st mem := ke_getf rfl dX0_carryOn_24
theorem eX0_carryOn_27 : ev X m_X0_carryOn 27 [a0, vI x, a2] st mem = ev X m_X0_carryOn 28 [a0, vI x, a2] (vI x :: st) mem := ke_iload_n rfl dX0_carryOn_27
theorem eX0_carryOn_28 : ev X m_X0_carryOn 28 [a0, a1, a2] (vI x :: vR r :: st) mem = ev X m_X0_carryOn 29 [a0, a1, a2] (vI x :: vR r :: vI x :: vR r :: st) mem := ke_dup2 dX0_carryOn_28
theorem eX0_carryOn_29 : ev X m_X0_carryOn 29 [a0, a1, a2] (vI x :: vR r :: st) mem = evb X (aget mem r x) m_X0_carryOn 30 [a0, a1, a2] st mem := ke_iaload dX0_carryOn_29
theorem eX0_carryOn_30 : ev X m_X0_carryOn 30 [a0, a1, a2] st mem = ev X m_X0_carryOn 31 [a0, a1, a2] (vI 1 :: st) mem := ke_iconst (by decide) dX0_carryOn_30
theorem eX0_carryOn_31 : ev X m_X0_carryOn 31 [a0, a1, a2] (vI y :: vI x :: st) mem = ev X m_X0_carryOn 32 [a0, a1, a2] (vI (w32 (x - y)) :: st) mem := ke_isub dX0_carryOn_31
theorem eX0_carryOn_32 : ev X m_X0_carryOn 32 [a0, a1, a2] (vI y :: vI x :: vR r :: st) mem = evm X (aput mem r x y) m_X0_carryOn 33 [a0, a1, a2] st := ke_iastore dX0_carryOn_32
theorem eX0_carryOn_33 : ev X m_X0_carryOn 33 [vR r, a1, a2] st mem = ev X m_X0_carryOn 34 [vR r, a1, a2] (vR r :: st) mem := ke_aload_n rfl dX0_carryOn_33
theorem eX0_carryOn_34 : ev X m_X0_carryOn 34 [a0, a1, a2] (vR r :: st) mem = evb X (fget mem r 0 12) m_X0_carryOn 37 [a0, a1, a2] st mem := ke_getf rfl dX0_carryOn_34
theorem eX0_carryOn_37 : ev X m_X0_carryOn 37 [a0, vI x, a2] st mem = ev X m_X0_carryOn 38 [a0, vI x, a2] (vI x :: st) mem := ke_iload_n rfl dX0_carryOn_37
theorem eX0_carryOn_38 : ev X m_X0_carryOn 38 [a0, a1, a2] (vI x :: vR r :: st) mem = evb X (aget mem r x) m_X0_carryOn 39 [a0, a1, a2] st mem := ke_iaload dX0_carryOn_38
theorem eX0_carryOn_39 : ev X m_X0_carryOn 39 [a0, a1, a2] (vI x :: st) mem = if 0 < x then ev X m_X0_carryOn 42 [a0, a1, a2] st mem else ev X m_X0_carryOn 45 [a0, a1, a2] st mem := ke_if_le dX0_carryOn_39 rfl
theorem eX0_carryOn_42 : ev X m_X0_carryOn 42 [a0, a1, a2] st mem = ev X m_X0_carryOn 113 [a0, a1, a2] st mem := ke_goto dX0_carryOn_42 rfl
theorem eX0_carryOn_45 : ev X m_X0_carryOn 45 [vR r, a1, a2] st mem = ev X m_X0_carryOn 46 [vR r, a1, a2] (vR r :: st) mem := ke_aload_n rfl dX0_carryOn_45
theorem eX0_carryOn_46 : ev X m_X0_carryOn 46 [a0, a1, a2] (vR r :: st) mem = evb X (fget mem r 0 10) m_X0_carryOn 49 [a0, a1, a2] st mem := ke_getf rfl dX0_carryOn_46
theorem eX0_carryOn_49 : ev X m_X0_carryOn 49 [a0, vI x, a2] st mem = ev X m_X0_carryOn 50 [a0, vI x, a2] (vI x :: st) mem := ke_iload_n rfl dX0_carryOn_49
theorem eX0_carryOn_50 : ev X m_X0_carryOn 50 [a0, a1, a2] st mem = ev X m_X0_carryOn 51 [a0, a1, a2] (vI 2 :: st) mem := ke_iconst (by decide) dX0_carryOn_50
theorem eX0_carryOn_51 : ev X m_X0_carryOn 51 [a0, a1, a2] (vI y :: vI x :: vR r :: st) mem = evm X (aput mem r x y) m_X0_carryOn 52 [a0, a1, a2] st := ke_iastore dX0_carryOn_51
theorem eX0_carryOn_52 : ev X m_X0_carryOn 52 [vR r, a1, a2] st mem = ev X m_X0_carryOn 53 [vR r, a1, a2] (vR r :: st) mem := ke_aload_n rfl dX0_carryOn_52
theorem eX0_carryOn_53 : ev X m_X0_carryOn 53 [a0, a1, a2] (vR r :: st) mem = evb X (fget mem r 0 12) m_X0_carryOn 56 [a0, a1, a2] st mem := ke_getf rfl dX0_carryOn_53
theorem eX0_carryOn_56 : ev X m_X0_carryOn 56 [a0, vI x, a2] st mem = ev X m_X0_carryOn 57 [a0, vI x, a2] (vI x :: st) mem := ke_iload_n rfl dX0_carryOn_56
theorem eX0_carryOn_57 : ev X m_X0_carryOn 57 [a0, a1, a2] st mem = ev X m_X0_carryOn 58 [a0, a1, a2] (vI 0 :: st) mem := ke_iconst (by decide) dX0_carryOn_57
theorem eX0_carryOn_58 : ev X m_X0_carryOn 58 [a0, a1, a2] (vI y :: vI x :: vR r :: st) mem = evm X (aput mem r x y) m_X0_carryOn 59 [a0, a1, a2] st := ke_iastore dX0_carryOn_58
theorem eX0_carryOn_59 : ev X m_X0_carryOn 59 [vR r, a1, a2] st mem = ev X m_X0_carryOn 60 [vR r, a1, a2] (vR r :: st) mem := ke_aload_n rfl dX0_carryOn_59
theorem eX0_carryOn_60 : ev X m_X0_carryOn 60 [a0, a1, a2] (vR r :: st) mem = evb X (fget mem r 0 8) m_X0_carryOn 63 [a0, a1, a2] st mem := ke_getf rfl dX0_carryOn_60
theorem eX0_carryOn_63 : ev X m_X0_carryOn 63 [a0, vI x, a2] st mem = ev X m_X0_carryOn 64 [a0, vI x, a2] (vI x :: st) mem := ke_iload_n rfl dX0_carryOn_63
theorem eX0_carryOn_64 : ev X m_X0_carryOn 64 [a0, a1, a2] (vI x :: vR r :: st) mem = evb X (aget mem r x) m_X0_carryOn 65 [a0, a1, a2] st mem := ke_iaload dX0_carryOn_64
theorem eX0_carryOn_65 : ev X m_X0_carryOn 65 [a0, a1, a2] (vI x :: st) mem = ev X m_X0_carryOn 66 [a0, a1, vI x] st mem := ke_istore_n (Nat.le_of_ble_eq_true rfl) rfl dX0_carryOn_65
theorem eX0_carryOn_66 : ev X m_X0_carryOn 66 [vR r, a1, a2] st mem = ev X m_X0_carryOn 67 [vR r, a1, a2] (vR r :: st) mem := ke_aload_n rfl dX0_carryOn_66
theorem eX0_carryOn_67 : ev X m_X0_carryOn 67 [a0, a1, vI x] st mem = ev X m_X0_carryOn 68 [a0, a1, vI x] (vI x :: st) mem := ke_iload_n rfl dX0_carryOn_67
theorem eX0_carryOn_68 : ev X m_X0_carryOn 68 [a0, a1, a2] (vI n0 :: vR r :: []) mem = evc X (gR mem r 0 (ev X m_X0_hasPerson 0 [vR r, vI n0] [] mem)) m_X0_carryOn 71 [a0, a1, a2] [] := ke_callV (m' := m_X0_hasPerson) (as := [vI n0]) (n := 1) (rest := []) dX0_carryOn_68 rfl rfl rfl rfl rfl rfl (Nat.le_of_ble_eq_true rfl) (Nat.le_of_ble_eq_true rfl) (Nat.le_of_ble_eq_true rfl) rfl
theorem eX0_carryOn_71 : ev X m_X0_carryOn 71 [a0, a1, a2] (vI x :: st) mem = if x = 0 then ev X m_X0_carryOn 94 [a0, a1, a2] st mem else ev X m_X0_carryOn 74 [a0, a1, a2] st mem := ke_if_eq dX0_carryOn_71 rfl
theorem eX0_carryOn_74 : ev X m_X0_carryOn 74 [vR r, a1, a2] st mem = ev X m_X0_carryOn 75 [vR r, a1, a2] (vR r :: st) mem := ke_aload_n rfl dX0_carryOn_74
theorem eX0_carryOn_75 : ev X m_X0_carryOn 75 [a0, a1, a2] (vR r :: st) mem = evb X (fget mem r 0 6) m_X0_carryOn 78 [a0, a1, a2] st mem := ke_getf rfl dX0_carryOn_75
theorem eX0_carryOn_78 : ev X m_X0_carryOn 78 [a0, a1, vI x] st mem = ev X m_X0_carryOn 79 [a0, a1, vI x] (vI x :: st) mem := ke_iload_n rfl dX0_carryOn_78
theorem eX0_carryOn_79 : ev X m_X0_carryOn 79 [a0, a1, a2] st mem = ev X m_X0_carryOn 82 [a0, a1, a2] (vI 999 :: st) mem := ke_sipush (by decide) dX0_carryOn_79
theorem eX0_carryOn_82 : ev X m_X0_carryOn 82 [vR r, a1, a2] st mem = ev X m_X0_carryOn 83 [vR r, a1, a2] (vR r :: st) mem := ke_aload_n rfl dX0_carryOn_82
theorem eX0_carryOn_83 : ev X m_X0_carryOn 83 [a0, a1, a2] (vR r :: st) mem = evb X (fget mem r 0 6) m_X0_carryOn 86 [a0, a1, a2] st mem := ke_getf rfl dX0_carryOn_83
theorem eX0_carryOn_86 : ev X m_X0_carryOn 86 [a0, a1, vI x] st mem = ev X m_X0_carryOn 87 [a0, a1, vI x] (vI x :: st) mem := ke_iload_n rfl dX0_carryOn_86
theorem eX0_carryOn_87 : ev X m_X0_carryOn 87 [a0, a1, a2] (vI x :: vR r :: st) mem = evb X (aget mem r x) m_X0_carryOn 88 [a0, a1, a2] st mem := ke_iaload dX0_carryOn_87
theorem eX0_carryOn_88 : ev X m_X0_carryOn 88 [a0, a1, a2] st mem = ev X m_X0_carryOn 89 [a0, a1, a2] (vI 1 :: st) mem := ke_iconst (by decide) dX0_carryOn_88
theorem eX0_carryOn_89 : ev X m_X0_carryOn 89 [a0, a1, a2] (vI y :: vI x :: st) mem = ev X m_X0_carryOn 90 [a0, a1, a2] (vI (w32 (x + y)) :: st) mem := ke_iadd dX0_carryOn_89
theorem eX0_carryOn_90 : ev X m_X0_carryOn 90 [a0, a1, a2] (vI y :: vI x :: [s0, s1]) mem = ev X m_X0_carryOn 93 [a0, a1, a2] (vI (if y < x then y else x) :: [s0, s1]) mem := ke_mmin rfl rfl rfl (Nat.le_of_ble_eq_true rfl) (Nat.le_of_ble_eq_true rfl) (Nat.le_of_ble_eq_true rfl) dX0_carryOn_90
theorem eX0_carryOn_93 : ev X m_X0_carryOn 93 [a0, a1, a2] (vI y :: vI x :: vR r :: st) mem = evm X (aput mem r x y) m_X0_carryOn 94 [a0, a1, a2] st := ke_iastore dX0_carryOn_93
theorem eX0_carryOn_94 : ev X m_X0_carryOn 94 [vR r, a1, a2] st mem = ev X m_X0_carryOn 95 [vR r, a1, a2] (vR r :: st) mem := ke_aload_n rfl dX0_carryOn_94
theorem eX0_carryOn_95 : ev X m_X0_carryOn 95 [vR r, a1, a2] st mem = ev X m_X0_carryOn 96 [vR r, a1, a2] (vR r :: st) mem := ke_aload_n rfl dX0_carryOn_95
theorem eX0_carryOn_96 : ev X m_X0_carryOn 96 [a0, a1, a2] (vR r :: st) mem = evb X (fget mem r 0 11) m_X0_carryOn 99 [a0, a1, a2] st mem := ke_getf rfl dX0_carryOn_96
theorem eX0_carryOn_99 : ev X m_X0_carryOn 99 [a0, vI x, a2] st mem = ev X m_X0_carryOn 100 [a0, vI x, a2] (vI x :: st) mem := ke_iload_n rfl dX0_carryOn_99
theorem eX0_carryOn_100 : ev X m_X0_carryOn 100 [a0, a1, a2] (vI x :: vR r :: st) mem = evb X (aget mem r x) m_X0_carryOn 101 [a0, a1, a2] st mem := ke_iaload dX0_carryOn_100
theorem eX0_carryOn_101 : ev X m_X0_carryOn 101 [a0, a1, vI x] st mem = ev X m_X0_carryOn 102 [a0, a1, vI x] (vI x :: st) mem := ke_iload_n rfl dX0_carryOn_101
theorem eX0_carryOn_102 : ev X m_X0_carryOn 102 [vR r, a1, a2] st mem = ev X m_X0_carryOn 103 [vR r, a1, a2] (vR r :: st) mem := ke_aload_n rfl dX0_carryOn_102
theorem eX0_carryOn_103 : ev X m_X0_carryOn 103 [a0, a1, a2] (vR r :: st) mem = evb X (fget mem r 0 9) m_X0_carryOn 106 [a0, a1, a2] st mem := ke_getf rfl dX0_carryOn_103
theorem eX0_carryOn_106 : ev X m_X0_carryOn 106 [a0, vI x, a2] st mem = ev X m_X0_carryOn 107 [a0, vI x, a2] (vI x :: st) mem := ke_iload_n rfl dX0_carryOn_106
theorem eX0_carryOn_107 : ev X m_X0_carryOn 107 [a0, a1, a2] (vI x :: vR r :: st) mem = evb X (aget mem r x) m_X0_carryOn 108 [a0, a1, a2] st mem := ke_iaload dX0_carryOn_107
theorem eX0_carryOn_108 : ev X m_X0_carryOn 108 [a0, a1, a2] (vI x :: st) mem = ev X m_X0_carryOn 109 [a0, a1, a2] (vI (w32 (-x)) :: st) mem := ke_ineg dX0_carryOn_108
theorem eX0_carryOn_109 : ev X m_X0_carryOn 109 [a0, a1, a2] (vI n2 :: vI n1 :: vI n0 :: vR r :: []) mem = evc X (gR mem r 0 (ev X m_X0_addHate 0 [vR r, vI n0, vI n1, vI n2, vS] [] mem)) m_X0_carryOn 112 [a0, a1, a2] [] := ke_callV (m' := m_X0_addHate) (as := [vI n0, vI n1, vI n2]) (n := 3) (rest := []) dX0_carryOn_109 rfl rfl rfl rfl rfl rfl (Nat.le_of_ble_eq_true rfl) (Nat.le_of_ble_eq_true rfl) (Nat.le_of_ble_eq_true rfl) rfl
theorem eX0_carryOn_112 : ev X m_X0_carryOn 112 [a0, a1, a2] (vI x :: st) mem = ev X m_X0_carryOn 113 [a0, a1, a2] st mem := ke_popI dX0_carryOn_112
theorem eX0_carryOn_112r : ev X m_X0_carryOn 112 [a0, a1, a2] (vR r :: st) mem = ev X m_X0_carryOn 113 [a0, a1, a2] st mem := ke_popR dX0_carryOn_112
theorem eX0_carryOn_113 : ev X m_X0_carryOn 113 [a0, vI x, a2] st mem = ev X m_X0_carryOn 116 [a0, vI (w32 (x + 1)), a2] st mem := ke_iinc rfl (Nat.le_of_ble_eq_true rfl) rfl dX0_carryOn_113
theorem eX0_carryOn_116 : ev X m_X0_carryOn 116 [a0, a1, a2] st mem = ev X m_X0_carryOn 2 [a0, a1, a2] st mem := ke_goto dX0_carryOn_116 rfl
theorem eX0_carryOn_119 : ev X m_X0_carryOn 119 [a0, a1, a2] [] mem = some (none, mem) := ke_return dX0_carryOn_119 rfl
theorem eX0_hasPerson_0 : ev X m_X0_hasPerson 0 [a0, vI x] st mem = ev X m_X0_hasPerson 1 [a0, vI x] (vI x :: st) mem := ke_iload_n rfl dX0_hasPerson_0
theorem eX0_hasPerson_1 : ev X m_X0_hasPerson 1 [a0, a1] (vI x :: st) mem = if x < 0 then ev X m_X0_hasPerson 16 [a0, a1] st mem else ev X m_X0_hasPerson 4 [a0, a1] st mem := ke_if_lt dX0_hasPerson_1 rfl
theorem eX0_hasPerson_4 : ev X m_X0_hasPerson 4 [a0, vI x] st mem = ev X m_X0_hasPerson 5 [a0, vI x] (vI x :: st) mem := ke_iload_n rfl dX0_hasPerson_4
theorem eX0_hasPerson_5 : ev X m_X0_hasPerson 5 [vR r, a1] st mem = ev X m_X0_hasPerson 6 [vR r, a1] (vR r :: st) mem := ke_aload_n rfl dX0_hasPerson_5
theorem eX0_hasPerson_6 : ev X m_X0_hasPerson 6 [a0, a1] (vR r :: st) mem = evb X (fget mem r 0 0) m_X0_hasPerson 9 [a0, a1] st mem := ke_getf rfl dX0_hasPerson_6
theorem eX0_hasPerson_9 : ev X m_X0_hasPerson 9 [a0, a1] (vI y :: vI x :: st) mem = if x < y then ev X m_X0_hasPerson 12 [a0, a1] st mem else ev X m_X0_hasPerson 16 [a0, a1] st mem := ke_icmp_ge dX0_hasPerson_9 rfl
theorem eX0_hasPerson_12 : ev X m_X0_hasPerson 12 [a0, a1] st mem = ev X m_X0_hasPerson 13 [a0, a1] (vI 1 :: st) mem := ke_iconst (by decide) dX0_hasPerson_12
theorem eX0_hasPerson_13 : ev X m_X0_hasPerson 13 [a0, a1] st mem = ev X m_X0_hasPerson 17 [a0, a1] st mem := ke_goto dX0_hasPerson_13 rfl
theorem eX0_hasPerson_16 : ev X m_X0_hasPerson 16 [a0, a1] st mem = ev X m_X0_hasPerson 17 [a0, a1] (vI 0 :: st) mem := ke_iconst (by decide) dX0_hasPerson_16
theorem eX0_hasPerson_17a : ev X m_X0_hasPerson 17 [a0, a1] [vI 1] mem = some (some (vI 1), mem) := ke_zreturn dX0_hasPerson_17 rfl rfl
theorem eX0_hasPerson_17b : ev X m_X0_hasPerson 17 [a0, a1] [vI 0] mem = some (some (vI 0), mem) := ke_zreturn dX0_hasPerson_17 rfl rfl
theorem eX0_hasPerson_17c {c : Prop} [Decidable c] : ev X m_X0_hasPerson 17 [a0, a1] [vI (if c then 1 else 0)] mem = some (some (vI (if c then 1 else 0)), mem) := ke_zreturn dX0_hasPerson_17 rfl (by split <;> rfl)
theorem eX0_addHate_0 : ev X m_X0_addHate 0 [vR r, a1, a2, a3, a4] st mem = ev X m_X0_addHate 1 [vR r, a1, a2, a3, a4] (vR r :: st) mem := ke_aload_n rfl dX0_addHate_0
theorem eX0_addHate_1 : ev X m_X0_addHate 1 [a0, vI x, a2, a3, a4] st mem = ev X m_X0_addHate 2 [a0, vI x, a2, a3, a4] (vI x :: st) mem := ke_iload_n rfl dX0_addHate_1
theorem eX0_addHate_2 : ev X m_X0_addHate 2 [a0, a1, vI x, a3, a4] st mem = ev X m_X0_addHate 3 [a0, a1, vI x, a3, a4] (vI x :: st) mem := ke_iload_n rfl dX0_addHate_2
theorem eX0_addHate_3 : ev X m_X0_addHate 3 [a0, a1, a2, a3, a4] (vI n1 :: vI n0 :: vR r :: []) mem = evc X (gR mem r 0 (ev X m_X0_hasPair 0 [vR r, vI n0, vI n1] [] mem)) m_X0_addHate 6 [a0, a1, a2, a3, a4] [] := ke_callV (m' := m_X0_hasPair) (as := [vI n0, vI n1]) (n := 2) (rest := []) dX0_addHate_3 rfl rfl rfl rfl rfl rfl (Nat.le_of_ble_eq_true rfl) (Nat.le_of_ble_eq_true rfl) (Nat.le_of_ble_eq_true rfl) rfl
theorem eX0_addHate_6 : ev X m_X0_addHate 6 [a0, a1, a2, a3, a4] (vI x :: st) mem = if x = 0 then ev X m_X0_addHate 9 [a0, a1, a2, a3, a4] st mem else ev X m_X0_addHate 11 [a0, a1, a2, a3, a4] st mem := ke_if_ne dX0_addHate_6 rfl
theorem eX0_addHate_9 : ev X m_X0_addHate 9 [a0, a1, a2, a3, a4] st mem = ev X m_X0_addHate 10 [a0, a1, a2, a3, a4] (vI 0 :: st) mem := ke_iconst (by decide) dX0_addHate_9
theorem eX0_addHate_10a : ev X m_X0_addHate 10 [a0, a1, a2, a3, a4] [vI 1] mem = some (some (vI 1), mem) := ke_zreturn dX0_addHate_10 rfl rfl
theorem eX0_addHate_10b : ev X m_X0_addHate 10 [a0, a1, a2, a3, a4] [vI 0] mem = some (some (vI 0), mem) := ke_zreturn dX0_addHate_10 rfl rfl
theorem eX0_addHate_10c {c : Prop} [Decidable c] : ev X m_X0_addHate 10 [a0, a1, a2, a3, a4] [vI (if c then 1 else 0)] mem = some (some (vI (if c then 1 else 0)), mem) := ke_zreturn dX0_addHate_10 rfl (by split <;> rfl)
theorem eX0_addHate_11 : ev X m_X0_addHate 11 [a0, vI x, a2, a3, a4] st mem = ev X m_X0_addHate 12 [a0, vI x, a2, a3, a4] (vI x :: st) mem := ke_iload_n rfl dX0_addHate_11
theorem eX0_addHate_12 : ev X m_X0_addHate 12 [a0, a1, a2, a3, a4] st mem = ev X m_X0_addHate 14 [a0, a1, a2, a3, a4] (vI 6 :: st) mem := ke_bipush (by decide) dX0_addHate_12
theorem eX0_addHate_14 : ev X m_X0_addHate 14 [a0, a1, a2, a3, a4] (vI y :: vI x :: st) mem = ev X m_X0_addHate 15 [a0, a1, a2, a3, a4] (vI (w32 (x * y)) :: st) mem := ke_imul dX0_addHate_14
theorem eX0_addHate_15 : ev X m_X0_addHate 15 [a0, a1, vI x, a3, a4] st mem = ev X m_X0_addHate 16 [a0, a1, vI x, a3, a4] (vI x :: st) mem := ke_iload_n rfl dX0_addHate_15
theorem eX0_addHate_16 : ev X m_X0_addHate 16 [a0, a1, a2, a3, a4] (vI y :: vI x :: st) mem = ev X m_X0_addHate 17 [a0, a1, a2, a3, a4] (vI (w32 (x + y)) :: st) mem := ke_iadd dX0_addHate_16
theorem eX0_addHate_17 : ev X m_X0_addHate 17 [a0, a1, a2, a3, a4] (vI x :: st) mem = ev X m_X0_addHate 19 [a0, a1, a2, a3, vI x] st mem := ke_istore (Nat.le_of_ble_eq_true rfl) rfl dX0_addHate_17
theorem eX0_addHate_19 : ev X m_X0_addHate 19 [vR r, a1, a2, a3, a4] st mem = ev X m_X0_addHate 20 [vR r, a1, a2, a3, a4] (vR r :: st) mem := ke_aload_n rfl dX0_addHate_19
theorem eX0_addHate_20 : ev X m_X0_addHate 20 [a0, a1, a2, a3, a4] (vR r :: st) mem = evb X (fget mem r 0 7) m_X0_addHate 23 [a0, a1, a2, a3, a4] st mem := ke_getf rfl dX0_addHate_20
theorem eX0_addHate_23 : ev X m_X0_addHate 23 [a0, a1, a2, a3, vI x] st mem = ev X m_X0_addHate 25 [a0, a1, a2, a3, vI x] (vI x :: st) mem := ke_iload rfl dX0_addHate_23
theorem eX0_addHate_25 : ev X m_X0_addHate 25 [a0, a1, a2, a3, a4] st mem = ev X m_X0_addHate 26 [a0, a1, a2, a3, a4] (vI 0 :: st) mem := ke_iconst (by decide) dX0_addHate_25
theorem eX0_addHate_26 : ev X m_X0_addHate 26 [a0, a1, a2, a3, a4] st mem = ev X m_X0_addHate 28 [a0, a1, a2, a3, a4] (vI 99 :: st) mem := ke_bipush (by decide) dX0_addHate_26
theorem eX0_addHate_28 : ev X m_X0_addHate 28 [vR r, a1, a2, a3, a4] st mem = ev X m_X0_addHate 29 [vR r, a1, a2, a3, a4] (vR r :: st) mem := ke_aload_n rfl dX0_addHate_28
theorem eX0_addHate_29 : ev X m_X0_addHate 29 [a0, a1, a2, a3, a4] (vR r :: st) mem = evb X (fget mem r 0 7) m_X0_addHate 32 [a0, a1, a2, a3, a4] st mem := ke_getf rfl dX0_addHate_29
theorem eX0_addHate_32 : ev X m_X0_addHate 32 [a0, a1, a2, a3, vI x] st mem = ev X m_X0_addHate 34 [a0, a1, a2, a3, vI x] (vI x :: st) mem := ke_iload rfl dX0_addHate_32
theorem eX0_addHate_34 : ev X m_X0_addHate 34 [a0, a1, a2, a3, a4] (vI x :: vR r :: st) mem = evb X (aget mem r x) m_X0_addHate 35 [a0, a1, a2, a3, a4] st mem := ke_iaload dX0_addHate_34
theorem eX0_addHate_35 : ev X m_X0_addHate 35 [a0, a1, a2, vI x, a4] st mem = ev X m_X0_addHate 36 [a0, a1, a2, vI x, a4] (vI x :: st) mem := ke_iload_n rfl dX0_addHate_35
theorem eX0_addHate_36 : ev X m_X0_addHate 36 [a0, a1, a2, a3, a4] (vI y :: vI x :: st) mem = ev X m_X0_addHate 37 [a0, a1, a2, a3, a4] (vI (w32 (x + y)) :: st) mem := ke_iadd dX0_addHate_36
theorem eX0_addHate_37 : ev X m_X0_addHate 37 [a0, a1, a2, a3, a4] (vI y :: vI x :: [s0, s1, s2]) mem = ev X m_X0_addHate 40 [a0, a1, a2, a3, a4] (vI (if y < x then y else x) :: [s0, s1, s2]) mem := ke_mmin rfl rfl rfl (Nat.le_of_ble_eq_true rfl) (Nat.le_of_ble_eq_true rfl) (Nat.le_of_ble_eq_true rfl) dX0_addHate_37
theorem eX0_addHate_40 : ev X m_X0_addHate 40 [a0, a1, a2, a3, a4] (vI y :: vI x :: [s0, s1]) mem = ev X m_X0_addHate 43 [a0, a1, a2, a3, a4] (vI (if x < y then y else x) :: [s0, s1]) mem := ke_mmax rfl rfl rfl (Nat.le_of_ble_eq_true rfl) (Nat.le_of_ble_eq_true rfl) (Nat.le_of_ble_eq_true rfl) dX0_addHate_40
theorem eX0_addHate_43 : ev X m_X0_addHate 43 [a0, a1, a2, a3, a4] (vI y :: vI x :: vR r :: st) mem = evm X (aput mem r x y) m_X0_addHate 44 [a0, a1, a2, a3, a4] st := ke_iastore dX0_addHate_43
theorem eX0_addHate_44 : ev X m_X0_addHate 44 [a0, a1, a2, a3, a4] st mem = ev X m_X0_addHate 45 [a0, a1, a2, a3, a4] (vI 1 :: st) mem := ke_iconst (by decide) dX0_addHate_44
theorem eX0_addHate_45a : ev X m_X0_addHate 45 [a0, a1, a2, a3, a4] [vI 1] mem = some (some (vI 1), mem) := ke_zreturn dX0_addHate_45 rfl rfl
theorem eX0_addHate_45b : ev X m_X0_addHate 45 [a0, a1, a2, a3, a4] [vI 0] mem = some (some (vI 0), mem) := ke_zreturn dX0_addHate_45 rfl rfl
theorem eX0_addHate_45c {c : Prop} [Decidable c] : ev X m_X0_addHate 45 [a0, a1, a2, a3, a4] [vI (if c then 1 else 0)] mem = some (some (vI (if c then 1 else 0)), mem) := ke_zreturn dX0_addHate_45 rfl (by split <;> rfl)
theorem eX0_hasPair_0 : ev X m_X0_hasPair 0 [a0, vI x, a2] st mem = ev X m_X0_hasPair 1 [a0, vI x, a2] (vI x :: st) mem := ke_iload_n rfl dX0_hasPair_0
theorem eX0_hasPair_1 : ev X m_X0_hasPair 1 [a0, a1, a2] (vI x :: st) mem = if x < 0 then ev X m_X0_hasPair 33 [a0, a1, a2] st mem else ev X m_X0_hasPair 4 [a0, a1, a2] st mem := ke_if_lt dX0_hasPair_1 rfl
theorem eX0_hasPair_4 : ev X m_X0_hasPair 4 [a0, vI x, a2] st mem = ev X m_X0_hasPair 5 [a0, vI x, a2] (vI x :: st) mem := ke_iload_n rfl dX0_hasPair_4
theorem eX0_hasPair_5 : ev X m_X0_hasPair 5 [vR r, a1, a2] st mem = ev X m_X0_hasPair 6 [vR r, a1, a2] (vR r :: st) mem := ke_aload_n rfl dX0_hasPair_5
theorem eX0_hasPair_6 : ev X m_X0_hasPair 6 [a0, a1, a2] (vR r :: st) mem = evb X (fget mem r 0 0) m_X0_hasPair 9 [a0, a1, a2] st mem := ke_getf rfl dX0_hasPair_6
theorem eX0_hasPair_9 : ev X m_X0_hasPair 9 [a0, a1, a2] (vI y :: vI x :: st) mem = if x < y then ev X m_X0_hasPair 12 [a0, a1, a2] st mem else ev X m_X0_hasPair 33 [a0, a1, a2] st mem := ke_icmp_ge dX0_hasPair_9 rfl
theorem eX0_hasPair_12 : ev X m_X0_hasPair 12 [a0, a1, vI x] st mem = ev X m_X0_hasPair 13 [a0, a1, vI x] (vI x :: st) mem := ke_iload_n rfl dX0_hasPair_12
theorem eX0_hasPair_13 : ev X m_X0_hasPair 13 [a0, a1, a2] (vI x :: st) mem = if x < 0 then ev X m_X0_hasPair 33 [a0, a1, a2] st mem else ev X m_X0_hasPair 16 [a0, a1, a2] st mem := ke_if_lt dX0_hasPair_13 rfl
theorem eX0_hasPair_16 : ev X m_X0_hasPair 16 [a0, a1, vI x] st mem = ev X m_X0_hasPair 17 [a0, a1, vI x] (vI x :: st) mem := ke_iload_n rfl dX0_hasPair_16
theorem eX0_hasPair_17 : ev X m_X0_hasPair 17 [vR r, a1, a2] st mem = ev X m_X0_hasPair 18 [vR r, a1, a2] (vR r :: st) mem := ke_aload_n rfl dX0_hasPair_17
theorem eX0_hasPair_18 : ev X m_X0_hasPair 18 [a0, a1, a2] (vR r :: st) mem = evb X (fget mem r 0 0) m_X0_hasPair 21 [a0, a1, a2] st mem := ke_getf rfl dX0_hasPair_18
theorem eX0_hasPair_21 : ev X m_X0_hasPair 21 [a0, a1, a2] (vI y :: vI x :: st) mem = if x < y then ev X m_X0_hasPair 24 [a0, a1, a2] st mem else ev X m_X0_hasPair 33 [a0, a1, a2] st mem := ke_icmp_ge dX0_hasPair_21 rfl
theorem eX0_hasPair_24 : ev X m_X0_hasPair 24 [a0, vI x, a2] st mem = ev X m_X0_hasPair 25 [a0, vI x, a2] (vI x :: st) mem := ke_iload_n rfl dX0_hasPair_24
theorem eX0_hasPair_25 : ev X m_X0_hasPair 25 [a0, a1, vI x] st mem = ev X m_X0_hasPair 26 [a0, a1, vI x] (vI x :: st) mem := ke_iload_n rfl dX0_hasPair_25
theorem eX0_hasPair_26 : ev X m_X0_hasPair 26 [a0, a1, a2] (vI y :: vI x :: st) mem = if x = y then ev X m_X0_hasPair 33 [a0, a1, a2] st mem else ev X m_X0_hasPair 29 [a0, a1, a2] st mem := ke_icmp_eq dX0_hasPair_26 rfl
theorem eX0_hasPair_29 : ev X m_X0_hasPair 29 [a0, a1, a2] st mem = ev X m_X0_hasPair 30 [a0, a1, a2] (vI 1 :: st) mem := ke_iconst (by decide) dX0_hasPair_29
theorem eX0_hasPair_30 : ev X m_X0_hasPair 30 [a0, a1, a2] st mem = ev X m_X0_hasPair 34 [a0, a1, a2] st mem := ke_goto dX0_hasPair_30 rfl
theorem eX0_hasPair_33 : ev X m_X0_hasPair 33 [a0, a1, a2] st mem = ev X m_X0_hasPair 34 [a0, a1, a2] (vI 0 :: st) mem := ke_iconst (by decide) dX0_hasPair_33
theorem eX0_hasPair_34a : ev X m_X0_hasPair 34 [a0, a1, a2] [vI 1] mem = some (some (vI 1), mem) := ke_zreturn dX0_hasPair_34 rfl rfl
theorem eX0_hasPair_34b : ev X m_X0_hasPair 34 [a0, a1, a2] [vI 0] mem = some (some (vI 0), mem) := ke_zreturn dX0_hasPair_34 rfl rfl
theorem eX0_hasPair_34c {c : Prop} [Decidable c] : ev X m_X0_hasPair 34 [a0, a1, a2] [vI (if c then 1 else 0)] mem = some (some (vI (if c then 1 else 0)), mem) := ke_zreturn dX0_hasPair_34 rfl (by split <;> rfl)
theorem eX0_giveOut_0 : ev X m_X0_giveOut 0 [a0, a1, a2] st mem = ev X m_X0_giveOut 1 [a0, a1, a2] (vI 0 :: st) mem := ke_iconst (by decide) dX0_giveOut_0
theorem eX0_giveOut_1 : ev X m_X0_giveOut 1 [a0, a1, a2] (vI x :: st) mem = ev X m_X0_giveOut 2 [a0, vI x, a2] st mem := ke_istore_n (Nat.le_of_ble_eq_true rfl) rfl dX0_giveOut_1
theorem eX0_giveOut_2 : ev X m_X0_giveOut 2 [a0, vI x, a2] st mem = ev X m_X0_giveOut 3 [a0, vI x, a2] (vI x :: st) mem := ke_iload_n rfl dX0_giveOut_2
theorem eX0_giveOut_3 : ev X m_X0_giveOut 3 [vR r, a1, a2] st mem = ev X m_X0_giveOut 4 [vR r, a1, a2] (vR r :: st) mem := ke_aload_n rfl dX0_giveOut_3
theorem eX0_giveOut_4 : ev X m_X0_giveOut 4 [a0, a1, a2] (vR r :: st) mem = evb X (fget mem r 0 1) m_X0_giveOut 7 [a0, a1, a2] st mem := ke_getf rfl dX0_giveOut_4
theorem eX0_giveOut_7 : ev X m_X0_giveOut 7 [a0, a1, a2] (vI y :: vI x :: st) mem = if x < y then ev X m_X0_giveOut 10 [a0, a1, a2] st mem else ev X m_X0_giveOut 100 [a0, a1, a2] st mem := ke_icmp_ge dX0_giveOut_7 rfl
theorem eX0_giveOut_10 : ev X m_X0_giveOut 10 [vR r, a1, a2] st mem = ev X m_X0_giveOut 11 [vR r, a1, a2] (vR r :: st) mem := ke_aload_n rfl dX0_giveOut_10
theorem eX0_giveOut_11 : ev X m_X0_giveOut 11 [a0, a1, a2] (vR r :: st) mem = evb X (fget mem r 0 10) m_X0_giveOut 14 [a0, a1, a2] st mem := ke_getf rfl dX0_giveOut_11
theorem eX0_giveOut_14 : ev X m_X0_giveOut 14 [a0, vI x, a2] st mem = ev X m_X0_giveOut 15 [a0, vI x, a2] (vI x :: st) mem := ke_iload_n rfl dX0_giveOut_14
theorem eX0_giveOut_15 : ev X m_X0_giveOut 15 [a0, a1, a2] (vI x :: vR r :: st) mem = evb X (aget mem r x) m_X0_giveOut 16 [a0, a1, a2] st mem := ke_iaload dX0_giveOut_15
theorem eX0_giveOut_16 : ev X m_X0_giveOut 16 [a0, a1, a2] (vI x :: st) mem = if x = 0 then ev X m_X0_giveOut 22 [a0, a1, a2] st mem else ev X m_X0_giveOut 19 [a0, a1, a2] st mem := ke_if_eq dX0_giveOut_16 rfl
theorem eX0_giveOut_19 : ev X m_X0_giveOut 19 [a0, a1, a2] st mem = ev X m_X0_giveOut 94 [a0, a1, a2] st mem := ke_goto dX0_giveOut_19 rfl
theorem eX0_giveOut_22 : ev X m_X0_giveOut 22 [vR r, a1, a2] st mem = ev X m_X0_giveOut 23 [vR r, a1, a2] (vR r :: st) mem := ke_aload_n rfl dX0_giveOut_22
theorem eX0_giveOut_23 : ev X m_X0_giveOut 23 [vR r, a1, a2] st mem = ev X m_X0_giveOut 24 [vR r, a1, a2] (vR r :: st) mem := ke_aload_n rfl dX0_giveOut_23
theorem eX0_giveOut_24 : ev X m_X0_giveOut 24 [a0, a1, a2] (vR r :: st) mem = evb X (fget mem r 0 8) m_X0_giveOut 27 [a0, a1, a2] st mem := ke_getf rfl dX0_giveOut_24
theorem eX0_giveOut_27 : ev X m_X0_giveOut 27 [a0, vI x, a2] st mem = ev X m_X0_giveOut 28 [a0, vI x, a2] (vI x :: st) mem := ke_iload_n rfl dX0_giveOut_27
theorem eX0_giveOut_28 : ev X m_X0_giveOut 28 [a0, a1, a2] (vI x :: vR r :: st) mem = evb X (aget mem r x) m_X0_giveOut 29 [a0, a1, a2] st mem := ke_iaload dX0_giveOut_28
theorem eX0_giveOut_29 : ev X m_X0_giveOut 29 [a0, a1, a2] st mem = ev X m_X0_giveOut 31 [a0, a1, a2] (vI (-9) :: st) mem := ke_bipush (by decide) dX0_giveOut_29
theorem eX0_giveOut_31 : ev X m_X0_giveOut 31 [a0, a1, a2] (vI n1 :: vI n0 :: vR r :: []) mem = evc X (gR mem r 0 (ev X m_X0_enemyOf 0 [vR r, vI n0, vI n1, vS, vS, vS, vS] [] mem)) m_X0_giveOut 34 [a0, a1, a2] [] := ke_callV (m' := m_X0_enemyOf) (as := [vI n0, vI n1]) (n := 2) (rest := []) dX0_giveOut_31 rfl rfl rfl rfl rfl rfl (Nat.le_of_ble_eq_true rfl) (Nat.le_of_ble_eq_true rfl) (Nat.le_of_ble_eq_true rfl) rfl
theorem eX0_giveOut_34 : ev X m_X0_giveOut 34 [a0, a1, a2] (vI x :: st) mem = ev X m_X0_giveOut 35 [a0, a1, vI x] st mem := ke_istore_n (Nat.le_of_ble_eq_true rfl) rfl dX0_giveOut_34
theorem eX0_giveOut_35 : ev X m_X0_giveOut 35 [vR r, a1, a2] st mem = ev X m_X0_giveOut 36 [vR r, a1, a2] (vR r :: st) mem := ke_aload_n rfl dX0_giveOut_35
theorem eX0_giveOut_36 : ev X m_X0_giveOut 36 [a0, a1, vI x] st mem = ev X m_X0_giveOut 37 [a0, a1, vI x] (vI x :: st) mem := ke_iload_n rfl dX0_giveOut_36
theorem eX0_giveOut_37 : ev X m_X0_giveOut 37 [a0, a1, a2] (vI n0 :: vR r :: []) mem = evc X (gR mem r 0 (ev X m_X0_hasPerson 0 [vR r, vI n0] [] mem)) m_X0_giveOut 40 [a0, a1, a2] [] := ke_callV (m' := m_X0_hasPerson) (as := [vI n0]) (n := 1) (rest := []) dX0_giveOut_37 rfl rfl rfl rfl rfl rfl (Nat.le_of_ble_eq_true rfl) (Nat.le_of_ble_eq_true rfl) (Nat.le_of_ble_eq_true rfl) rfl
theorem eX0_giveOut_40 : ev X m_X0_giveOut 40 [a0, a1, a2] (vI x :: st) mem = if x = 0 then ev X m_X0_giveOut 94 [a0, a1, a2] st mem else ev X m_X0_giveOut 43 [a0, a1, a2] st mem := ke_if_eq dX0_giveOut_40 rfl
theorem eX0_giveOut_43 : ev X m_X0_giveOut 43 [vR r, a1, a2] st mem = ev X m_X0_giveOut 44 [vR r, a1, a2] (vR r :: st) mem := ke_aload_n rfl dX0_giveOut_43
theorem eX0_giveOut_44 : ev X m_X0_giveOut 44 [a0, a1, vI x] st mem = ev X m_X0_giveOut 45 [a0, a1, vI x] (vI x :: st) mem := ke_iload_n rfl dX0_giveOut_44
theorem eX0_giveOut_45 : ev X m_X0_giveOut 45 [a0, a1, a2] (vI n0 :: vR r :: []) mem = evc X (gR mem r 0 (ev X m_X0_carries 0 [vR r, vI n0, vS] [] mem)) m_X0_giveOut 48 [a0, a1, a2] [] := ke_callV (m' := m_X0_carries) (as := [vI n0]) (n := 1) (rest := []) dX0_giveOut_45 rfl rfl rfl rfl rfl rfl (Nat.le_of_ble_eq_true rfl) (Nat.le_of_ble_eq_true rfl) (Nat.le_of_ble_eq_true rfl) rfl
theorem eX0_giveOut_48 : ev X m_X0_giveOut 48 [a0, a1, a2] (vI x :: st) mem = if x = 0 then ev X m_X0_giveOut 51 [a0, a1, a2] st mem else ev X m_X0_giveOut 94 [a0, a1, a2] st mem := ke_if_ne dX0_giveOut_48 rfl
theorem eX0_giveOut_51 : ev X m_X0_giveOut 51 [vR r, a1, a2] st mem = ev X m_X0_giveOut 52 [vR r, a1, a2] (vR r :: st) mem := ke_aload_n rfl dX0_giveOut_51
theorem eX0_giveOut_52 : ev X m_X0_giveOut 52 [a0, a1, a2] (vR r :: st) mem = evb X (fget mem r 0 10) m_X0_giveOut 55 [a0, a1, a2] st mem := ke_getf rfl dX0_giveOut_52
theorem eX0_giveOut_55 : ev X m_X0_giveOut 55 [a0, vI x, a2] st mem = ev X m_X0_giveOut 56 [a0, vI x, a2] (vI x :: st) mem := ke_iload_n rfl dX0_giveOut_55
theorem eX0_giveOut_56 : ev X m_X0_giveOut 56 [a0, a1, a2] st mem = ev X m_X0_giveOut 57 [a0, a1, a2] (vI 1 :: st) mem := ke_iconst (by decide) dX0_giveOut_56
theorem eX0_giveOut_57 : ev X m_X0_giveOut 57 [a0, a1, a2] (vI y :: vI x :: vR r :: st) mem = evm X (aput mem r x y) m_X0_giveOut 58 [a0, a1, a2] st := ke_iastore dX0_giveOut_57
theorem eX0_giveOut_58 : ev X m_X0_giveOut 58 [vR r, a1, a2] st mem = ev X m_X0_giveOut 59 [vR r, a1, a2] (vR r :: st) mem := ke_aload_n rfl dX0_giveOut_58
theorem eX0_giveOut_59 : ev X m_X0_giveOut 59 [a0, a1, a2] (vR r :: st) mem = evb X (fget mem r 0 11) m_X0_giveOut 62 [a0, a1, a2] st mem := ke_getf rfl dX0_giveOut_59
theorem eX0_giveOut_62 : ev X m_X0_giveOut 62 [a0, vI x, a2] st mem = ev X m_X0_giveOut 63 [a0, vI x, a2] (vI x :: st) mem := ke_iload_n rfl dX0_giveOut_62
theorem eX0_giveOut_63 : ev X m_X0_giveOut 63 [a0, a1, vI x] st mem = ev X m_X0_giveOut 64 [a0, a1, vI x] (vI x :: st) mem := ke_iload_n rfl dX0_giveOut_63
theorem eX0_giveOut_64 : ev X m_X0_giveOut 64 [a0, a1, a2] (vI y :: vI x :: vR r :: st) mem = evm X (aput mem r x y) m_X0_giveOut 65 [a0, a1, a2] st := ke_iastore dX0_giveOut_64
theorem eX0_giveOut_65 : ev X m_X0_giveOut 65 [vR r, a1, a2] st mem = ev X m_X0_giveOut 66 [vR r, a1, a2] (vR r :: st) mem := ke_aload_n rfl dX0_giveOut_65
theorem eX0_giveOut_66 : ev X m_X0_giveOut 66 [a0, a1, a2] (vR r :: st) mem = evb X (fget mem r 0 12) m_X0_giveOut 69 [a0, a1, a2] st mem := ke_getf rfl dX0_giveOut_66
theorem eX0_giveOut_69 : ev X m_X0_giveOut 69 [a0, vI x, a2] st mem = ev X m_X0_giveOut 70 [a0, vI x, a2] (vI x :: st) mem := ke_iload_n rfl dX0_giveOut_69
theorem eX0_giveOut_70 : ev X m_X0_giveOut 70 [vR r, a1, a2] st mem = ev X m_X0_giveOut 71 [vR r, a1, a2] (vR r :: st) mem := ke_aload_n rfl dX0_giveOut_70
theorem eX0_giveOut_71 : ev X m_X0_giveOut 71 [a0, a1, vI x] st mem = ev X m_X0_giveOut 72 [a0, a1, vI x] (vI x :: st) mem := ke_iload_n rfl dX0_giveOut_71
theorem eX0_giveOut_72 : ev X m_X0_giveOut 72 [vR r, a1, a2] st mem = ev X m_X0_giveOut 73 [vR r, a1, a2] (vR r :: st) mem := ke_aload_n rfl dX0_giveOut_72
theorem eX0_giveOut_73 : ev X m_X0_giveOut 73 [a0, a1, a2] (vR r :: st) mem = evb X (fget mem r 0 8) m_X0_giveOut 76 [a0, a1, a2] st mem := ke_getf rfl dX0_giveOut_73
theorem eX0_giveOut_76 : ev X m_X0_giveOut 76 [a0, vI x, a2] st mem = ev X m_X0_giveOut 77 [a0, vI x, a2] (vI x :: st) mem := ke_iload_n rfl dX0_giveOut_76
theorem eX0_giveOut_77 : ev X m_X0_giveOut 77 [a0, a1, a2] (vI x :: vR r :: st) mem = evb X (aget mem r x) m_X0_giveOut 78 [a0, a1, a2] st mem := ke_iaload dX0_giveOut_77
theorem eX0_giveOut_78 : ev X m_X0_giveOut 78 [a0, a1, a2] (vI n1 :: vI n0 :: vR r :: [s0, s1]) mem = evc X (gR mem r 0 (ev X m_X0_apart 0 [vR r, vI n0, vI n1] [] mem)) m_X0_giveOut 81 [a0, a1, a2] [s0, s1] := ke_callV (m' := m_X0_apart) (as := [vI n0, vI n1]) (n := 2) (rest := [s0, s1]) dX0_giveOut_78 rfl rfl rfl rfl rfl rfl (Nat.le_of_ble_eq_true rfl) (Nat.le_of_ble_eq_true rfl) (Nat.le_of_ble_eq_true rfl) rfl
theorem eX0_giveOut_81 : ev X m_X0_giveOut 81 [vR r, a1, a2] st mem = ev X m_X0_giveOut 82 [vR r, a1, a2] (vR r :: st) mem := ke_aload_n rfl dX0_giveOut_81
theorem eX0_giveOut_82 : ev X m_X0_giveOut 82 [a0, a1, a2] (vR r :: st) mem = evb X (fget mem r 0 3) m_X0_giveOut 85 [a0, a1, a2] st mem := ke_getf rfl dX0_giveOut_82
theorem eX0_giveOut_85 : ev X m_X0_giveOut 85 [a0, a1, vI x] st mem = ev X m_X0_giveOut 86 [a0, a1, vI x] (vI x :: st) mem := ke_iload_n rfl dX0_giveOut_85
theorem eX0_giveOut_86 : ev X m_X0_giveOut 86 [a0, a1, a2] (vI x :: vR r :: st) mem = evb X (aget mem r x) m_X0_giveOut 87 [a0, a1, a2] st mem := ke_iaload dX0_giveOut_86
theorem eX0_giveOut_87 : ev X m_X0_giveOut 87 [a0, a1, a2] (vI n0 :: [s0, s1, s2]) mem = evc X (ev X m_X0_milesOf 0 [vI n0] [] mem) m_X0_giveOut 90 [a0, a1, a2] [s0, s1, s2] := ke_callS (m' := m_X0_milesOf) (as := [vI n0]) (n := 1) (rest := [s0, s1, s2]) dX0_giveOut_87 rfl (by decide) rfl rfl rfl rfl rfl (Nat.le_of_ble_eq_true rfl) (Nat.le_of_ble_eq_true rfl) rfl
theorem eX0_giveOut_90 : ev X m_X0_giveOut 90 [a0, a1, a2] (vI n1 :: vI n0 :: [s0, s1]) mem = evc X (ev X m_X0_daysOnRoad 0 [vI n0, vI n1] [] mem) m_X0_giveOut 93 [a0, a1, a2] [s0, s1] := ke_callS (m' := m_X0_daysOnRoad) (as := [vI n0, vI n1]) (n := 2) (rest := [s0, s1]) dX0_giveOut_90 rfl (by decide) rfl rfl rfl rfl rfl (Nat.le_of_ble_eq_true rfl) (Nat.le_of_ble_eq_true rfl) rfl
theorem eX0_giveOut_93 : ev X m_X0_giveOut 93 [a0, a1, a2] (vI y :: vI x :: vR r :: st) mem = evm X (aput mem r x y) m_X0_giveOut 94 [a0, a1, a2] st := ke_iastore dX0_giveOut_93
theorem eX0_giveOut_94 : ev X m_X0_giveOut 94 [a0, vI x, a2] st mem = ev X m_X0_giveOut 97 [a0, vI (w32 (x + 1)), a2] st mem := ke_iinc rfl (Nat.le_of_ble_eq_true rfl) rfl dX0_giveOut_94
theorem eX0_giveOut_97 : ev X m_X0_giveOut 97 [a0, a1, a2] st mem = ev X m_X0_giveOut 2 [a0, a1, a2] st mem := ke_goto dX0_giveOut_97 rfl
theorem eX0_giveOut_100 : ev X m_X0_giveOut 100 [a0, a1, a2] [] mem = some (none, mem) := ke_return dX0_giveOut_100 rfl
theorem eX0_enemyOf_0 : ev X m_X0_enemyOf 0 [a0, a1, a2, a3, a4, a5, a6] st mem = ev X m_X0_enemyOf 2 [a0, a1, a2, a3, a4, a5, a6] (vI (-9) :: st) mem := ke_bipush (by decide) dX0_enemyOf_0
theorem eX0_enemyOf_2 : ev X m_X0_enemyOf 2 [a0, a1, a2, a3, a4, a5, a6] (vI x :: st) mem = ev X m_X0_enemyOf 3 [a0, a1, a2, vI x, a4, a5, a6] st mem := ke_istore_n (Nat.le_of_ble_eq_true rfl) rfl dX0_enemyOf_2
theorem eX0_enemyOf_3 : ev X m_X0_enemyOf 3 [a0, a1, a2, a3, a4, a5, a6] st mem = ev X m_X0_enemyOf 4 [a0, a1, a2, a3, a4, a5, a6] (vI 4 :: st) mem := ke_iconst (by decide) dX0_enemyOf_3
theorem eX0_enemyOf_4 : ev X m_X0_enemyOf 4 [a0, a1, a2, a3, a4, a5, a6] (vI x :: st) mem = ev X m_X0_enemyOf 6 [a0, a1, a2, a3, vI x, a5, a6] st mem := ke_istore (Nat.le_of_ble_eq_true rfl) rfl dX0_enemyOf_4
theorem eX0_enemyOf_6 : ev X m_X0_enemyOf 6 [a0, a1, a2, a3, a4, a5, a6] st mem = ev X m_X0_enemyOf 7 [a0, a1, a2, a3, a4, a5, a6] (vI 0 :: st) mem := ke_iconst (by decide) dX0_enemyOf_6
theorem eX0_enemyOf_7 : ev X m_X0_enemyOf 7 [a0, a1, a2, a3, a4, a5, a6] (vI x :: st) mem = ev X m_X0_enemyOf 9 [a0, a1, a2, a3, a4, vI x, a6] st mem := ke_istore (Nat.le_of_ble_eq_true rfl) rfl dX0_enemyOf_7
theorem eX0_enemyOf_9 : ev X m_X0_enemyOf 9 [a0, a1, a2, a3, a4, vI x, a6] st mem = ev X m_X0_enemyOf 11 [a0, a1, a2, a3, a4, vI x, a6] (vI x :: st) mem := ke_iload rfl dX0_enemyOf_9
theorem eX0_enemyOf_11 : ev X m_X0_enemyOf 11 [vR r, a1, a2, a3, a4, a5, a6] st mem = ev X m_X0_enemyOf 12 [vR r, a1, a2, a3, a4, a5, a6] (vR r :: st) mem := ke_aload_n rfl dX0_enemyOf_11
theorem eX0_enemyOf_12 : ev X m_X0_enemyOf 12 [a0, a1, a2, a3, a4, a5, a6] (vR r :: st) mem = evb X (fget mem r 0 0) m_X0_enemyOf 15 [a0, a1, a2, a3, a4, a5, a6] st mem := ke_getf rfl dX0_enemyOf_12
theorem eX0_enemyOf_15 : ev X m_X0_enemyOf 15 [a0, a1, a2, a3, a4, a5, a6] (vI y :: vI x :: st) mem = if x < y then ev X m_X0_enemyOf 18 [a0, a1, a2, a3, a4, a5, a6] st mem else ev X m_X0_enemyOf 62 [a0, a1, a2, a3, a4, a5, a6] st mem := ke_icmp_ge dX0_enemyOf_15 rfl
theorem eX0_enemyOf_18 : ev X m_X0_enemyOf 18 [a0, a1, a2, a3, a4, vI x, a6] st mem = ev X m_X0_enemyOf 20 [a0, a1, a2, a3, a4, vI x, a6] (vI x :: st) mem := ke_iload rfl dX0_enemyOf_18
theorem eX0_enemyOf_20 : ev X m_X0_enemyOf 20 [a0, vI x, a2, a3, a4, a5, a6] st mem = ev X m_X0_enemyOf 21 [a0, vI x, a2, a3, a4, a5, a6] (vI x :: st) mem := ke_iload_n rfl dX0_enemyOf_20
theorem eX0_enemyOf_21 : ev X m_X0_enemyOf 21 [a0, a1, a2, a3, a4, a5, a6] (vI y :: vI x :: st) mem = if x = y then ev X m_X0_enemyOf 56 [a0, a1, a2, a3, a4, a5, a6] st mem else ev X m_X0_enemyOf 24 [a0, a1, a2, a3, a4, a5, a6] st mem := ke_icmp_eq dX0_enemyOf_21 rfl
theorem eX0_enemyOf_24 : ev X m_X0_enemyOf 24 [a0, a1, a2, a3, a4, vI x, a6] st mem = ev X m_X0_enemyOf 26 [a0, a1, a2, a3, a4, vI x, a6] (vI x :: st) mem := ke_iload rfl dX0_enemyOf_24
theorem eX0_enemyOf_26 : ev X m_X0_enemyOf 26 [a0, a1, vI x, a3, a4, a5, a6] st mem = ev X m_X0_enemyOf 27 [a0, a1, vI x, a3, a4, a5, a6] (vI x :: st) mem := ke_iload_n rfl dX0_enemyOf_26
theorem eX0_enemyOf_27 : ev X m_X0_enemyOf 27 [a0, a1, a2, a3, a4, a5, a6] (vI y :: vI x :: st) mem = if x = y then ev X m_X0_enemyOf 30 [a0, a1, a2, a3, a4, a5, a6] st mem else ev X m_X0_enemyOf 33 [a0, a1, a2, a3, a4, a5, a6] st mem := ke_icmp_ne dX0_enemyOf_27 rfl
theorem eX0_enemyOf_30 : ev X m_X0_enemyOf 30 [a0, a1, a2, a3, a4, a5, a6] st mem = ev X m_X0_enemyOf 56 [a0, a1, a2, a3, a4, a5, a6] st mem := ke_goto dX0_enemyOf_30 rfl
theorem eX0_enemyOf_33 : ev X m_X0_enemyOf 33 [vR r, a1, a2, a3, a4, a5, a6] st mem = ev X m_X0_enemyOf 34 [vR r, a1, a2, a3, a4, a5, a6] (vR r :: st) mem := ke_aload_n rfl dX0_enemyOf_33
theorem eX0_enemyOf_34 : ev X m_X0_enemyOf 34 [a0, a1, a2, a3, a4, vI x, a6] st mem = ev X m_X0_enemyOf 36 [a0, a1, a2, a3, a4, vI x, a6] (vI x :: st) mem := ke_iload rfl dX0_enemyOf_34
theorem eX0_enemyOf_36 : ev X m_X0_enemyOf 36 [a0, vI x, a2, a3, a4, a5, a6] st mem = ev X m_X0_enemyOf 37 [a0, vI x, a2, a3, a4, a5, a6] (vI x :: st) mem := ke_iload_n rfl dX0_enemyOf_36
theorem eX0_enemyOf_37 : ev X m_X0_enemyOf 37 [a0, a1, a2, a3, a4, a5, a6] (vI n1 :: vI n0 :: vR r :: []) mem = evc X (gR mem r 0 (ev X m_X0_maliceOf 0 [vR r, vI n0, vI n1, vS, vS, vS, vS] [] mem)) m_X0_enemyOf 40 [a0, a1, a2, a3, a4, a5, a6] [] := ke_callV (m' := m_X0_maliceOf) (as := [vI n0, vI n1]) (n := 2) (rest := []) dX0_enemyOf_37 rfl rfl rfl rfl rfl rfl (Nat.le_of_ble_eq_true rfl) (Nat.le_of_ble_eq_true rfl) (Nat.le_of_ble_eq_true rfl) rfl
theorem eX0_enemyOf_40 : ev X m_X0_enemyOf 40 [a0, a1, a2, a3, a4, a5, a6] (vI x :: st) mem = ev X m_X0_enemyOf 42 [a0, a1, a2, a3, a4, a5, vI x] st mem := ke_istore (Nat.le_of_ble_eq_true rfl) rfl dX0_enemyOf_40
theorem eX0_enemyOf_42 : ev X m_X0_enemyOf 42 [a0, a1, a2, a3, a4, a5, vI x] st mem = ev X m_X0_enemyOf 44 [a0, a1, a2, a3, a4, a5, vI x] (vI x :: st) mem := ke_iload rfl dX0_enemyOf_42
theorem eX0_enemyOf_44 : ev X m_X0_enemyOf 44 [a0, a1, a2, a3, vI x, a5, a6] st mem = ev X m_X0_enemyOf 46 [a0, a1, a2, a3, vI x, a5, a6] (vI x :: st) mem := ke_iload rfl dX0_enemyOf_44
theorem eX0_enemyOf_46 : ev X m_X0_enemyOf 46 [a0, a1, a2, a3, a4, a5, a6] (vI y :: vI x :: st) mem = if y < x then ev X m_X0_enemyOf 49 [a0, a1, a2, a3, a4, a5, a6] st mem else ev X m_X0_enemyOf 56 [a0, a1, a2, a3, a4, a5, a6] st mem := ke_icmp_le dX0_enemyOf_46 rfl
theorem eX0_enemyOf_49 : ev X m_X0_enemyOf 49 [a0, a1, a2, a3, a4, a5, vI x] st mem = ev X m_X0_enemyOf 51 [a0, a1, a2, a3, a4, a5, vI x] (vI x :: st) mem := ke_iload rfl dX0_enemyOf_49
theorem eX0_enemyOf_51 : ev X m_X0_enemyOf 51 [a0, a1, a2, a3, a4, a5, a6] (vI x :: st) mem = ev X m_X0_enemyOf 53 [a0, a1, a2, a3, vI x, a5, a6] st mem := ke_istore (Nat.le_of_ble_eq_true rfl) rfl dX0_enemyOf_51
theorem eX0_enemyOf_53 : ev X m_X0_enemyOf 53 [a0, a1, a2, a3, a4, vI x, a6] st mem = ev X m_X0_enemyOf 55 [a0, a1, a2, a3, a4, vI x, a6] (vI x :: st) mem := ke_iload rfl dX0_enemyOf_53
theorem eX0_enemyOf_55 : ev X m_X0_enemyOf 55 [a0, a1, a2, a3, a4, a5, a6] (vI x :: st) mem = ev X m_X0_enemyOf 56 [a0, a1, a2, vI x, a4, a5, a6] st mem := ke_istore_n (Nat.le_of_ble_eq_true rfl) rfl dX0_enemyOf_55
theorem eX0_enemyOf_56 : ev X m_X0_enemyOf 56 [a0, a1, a2, a3, a4, vI x, a6] st mem = ev X m_X0_enemyOf 59 [a0, a1, a2, a3, a4, vI (w32 (x + 1)), a6] st mem := ke_iinc rfl (Nat.le_of_ble_eq_true rfl) rfl dX0_enemyOf_56
theorem eX0_enemyOf_59 : ev X m_X0_enemyOf 59 [a0, a1, a2, a3, a4, a5, a6] st mem = ev X m_X0_enemyOf 9 [a0, a1, a2, a3, a4, a5, a6] st mem := ke_goto dX0_enemyOf_59 rfl
theorem eX0_enemyOf_62 : ev X m_X0_enemyOf 62 [a0, a1, a2, vI x, a4, a5, a6] st mem = ev X m_X0_enemyOf 63 [a0, a1, a2, vI x, a4, a5, a6] (vI x :: st) mem := ke_iload_n rfl dX0_enemyOf_62
theorem eX0_enemyOf_63 : ev X m_X0_enemyOf 63 [a0, a1, a2, a3, a4, a5, a6] [vI x] mem = some (some (vI x), mem) := ke_ireturn dX0_enemyOf_63 rfl
theorem eX0_maliceOf_0 : ev X m_X0_maliceOf 0 [a0, vI x, a2, a3, a4, a5, a6] st mem = ev X m_X0_maliceOf 1 [a0, vI x, a2, a3, a4, a5, a6] (vI x :: st) mem := ke_iload_n rfl dX0_maliceOf_0
theorem eX0_maliceOf_1 : ev X m_X0_maliceOf 1 [a0, a1, a2, a3, a4, a5, a6] (vI x :: st) mem = if x < 0 then ev X m_X0_maliceOf 29 [a0, a1, a2, a3, a4, a5, a6] st mem else ev X m_X0_maliceOf 4 [a0, a1, a2, a3, a4, a5, a6] st mem := ke_if_lt dX0_maliceOf_1 rfl
theorem eX0_maliceOf_4 : ev X m_X0_maliceOf 4 [a0, vI x, a2, a3, a4, a5, a6] st mem = ev X m_X0_maliceOf 5 [a0, vI x, a2, a3, a4, a5, a6] (vI x :: st) mem := ke_iload_n rfl dX0_maliceOf_4
theorem eX0_maliceOf_5 : ev X m_X0_maliceOf 5 [vR r, a1, a2, a3, a4, a5, a6] st mem = ev X m_X0_maliceOf 6 [vR r, a1, a2, a3, a4, a5, a6] (vR r :: st) mem := ke_aload_n rfl dX0_maliceOf_5
theorem eX0_maliceOf_6 : ev X m_X0_maliceOf 6 [a0, a1, a2, a3, a4, a5, a6] (vR r :: st) mem = evb X (fget mem r 0 0) m_X0_maliceOf 9 [a0, a1, a2, a3, a4, a5, a6] st mem := ke_getf rfl dX0_maliceOf_6
theorem eX0_maliceOf_9 : ev X m_X0_maliceOf 9 [a0, a1, a2, a3, a4, a5, a6] (vI y :: vI x :: st) mem = if x < y then ev X m_X0_maliceOf 12 [a0, a1, a2, a3, a4, a5, a6] st mem else ev X m_X0_maliceOf 29 [a0, a1, a2, a3, a4, a5, a6] st mem := ke_icmp_ge dX0_maliceOf_9 rfl
theorem eX0_maliceOf_12 : ev X m_X0_maliceOf 12 [a0, a1, vI x, a3, a4, a5, a6] st mem = ev X m_X0_maliceOf 13 [a0, a1, vI x, a3, a4, a5, a6] (vI x :: st) mem := ke_iload_n rfl dX0_maliceOf_12
theorem eX0_maliceOf_13 : ev X m_X0_maliceOf 13 [a0, a1, a2, a3, a4, a5, a6] (vI x :: st) mem = if x < 0 then ev X m_X0_maliceOf 29 [a0, a1, a2, a3, a4, a5, a6] st mem else ev X m_X0_maliceOf 16 [a0, a1, a2, a3, a4, a5, a6] st mem := ke_if_lt dX0_maliceOf_13 rfl
theorem eX0_maliceOf_16 : ev X m_X0_maliceOf 16 [a0, a1, vI x, a3, a4, a5, a6] st mem = ev X m_X0_maliceOf 17 [a0, a1, vI x, a3, a4, a5, a6] (vI x :: st) mem := ke_iload_n rfl dX0_maliceOf_16
theorem eX0_maliceOf_17 : ev X m_X0_maliceOf 17 [vR r, a1, a2, a3, a4, a5, a6] st mem = ev X m_X0_maliceOf 18 [vR r, a1, a2, a3, a4, a5, a6] (vR r :: st) mem := ke_aload_n rfl dX0_maliceOf_17
theorem eX0_maliceOf_18 : ev X m_X0_maliceOf 18 [a0, a1, a2, a3, a4, a5, a6] (vR r :: st) mem = evb X (fget mem r 0 0) m_X0_maliceOf 21 [a0, a1, a2, a3, a4, a5, a6] st mem := ke_getf rfl dX0_maliceOf_18
theorem eX0_maliceOf_21 : ev X m_X0_maliceOf 21 [a0, a1, a2, a3, a4, a5, a6] (vI y :: vI x :: st) mem = if x < y then ev X m_X0_maliceOf 24 [a0, a1, a2, a3, a4, a5, a6] st mem else ev X m_X0_maliceOf 29 [a0, a1, a2, a3, a4, a5, a6] st mem := ke_icmp_ge dX0_maliceOf_21 rfl
theorem eX0_maliceOf_24 : ev X m_X0_maliceOf 24 [a0, vI x, a2, a3, a4, a5, a6] st mem = ev X m_X0_maliceOf 25 [a0, vI x, a2, a3, a4, a5, a6] (vI x :: st) mem := ke_iload_n rfl dX0_maliceOf_24
theorem eX0_maliceOf_25 : ev X m_X0_maliceOf 25 [a0, a1, vI x, a3, a4, a5, a6] st mem = ev X m_X0_maliceOf 26 [a0, a1, vI x, a3, a4, a5, a6] (vI x :: st) mem := ke_iload_n rfl dX0_maliceOf_25
theorem eX0_maliceOf_26 : ev X m_X0_maliceOf 26 [a0, a1, a2, a3, a4, a5, a6] (vI y :: vI x :: st) mem = if x = y then ev X m_X0_maliceOf 29 [a0, a1, a2, a3, a4, a5, a6] st mem else ev X m_X0_maliceOf 31 [a0, a1, a2, a3, a4, a5, a6] st mem := ke_icmp_ne dX0_maliceOf_26 rfl
theorem eX0_maliceOf_29 : ev X m_X0_maliceOf 29 [a0, a1, a2, a3, a4, a5, a6] st mem = ev X m_X0_maliceOf 30 [a0, a1, a2, a3, a4, a5, a6] (vI 0 :: st) mem := ke_iconst (by decide) dX0_maliceOf_29
theorem eX0_maliceOf_30 : ev X m_X0_maliceOf 30 [a0, a1, a2, a3, a4, a5, a6] [vI x] mem = some (some (vI x), mem) := ke_ireturn dX0_maliceOf_30 rfl
theorem eX0_maliceOf_31 : ev X m_X0_maliceOf 31 [vR r, a1, a2, a3, a4, a5, a6] st mem = ev X m_X0_maliceOf 32 [vR r, a1, a2, a3, a4, a5, a6] (vR r :: st) mem := ke_aload_n rfl dX0_maliceOf_31
theorem eX0_maliceOf_32 : ev X m_X0_maliceOf 32 [a0, a1, a2, a3, a4, a5, a6] (vR r :: st) mem = evb X (fget mem r 0 7) m_X0_maliceOf 35 [a0, a1, a2, a3, a4, a5, a6] st mem := ke_getf rfl dX0_maliceOf_32
theorem eX0_maliceOf_35 : ev X m_X0_maliceOf 35 [a0, vI x, a2, a3, a4, a5, a6] st mem = ev X m_X0_maliceOf 36 [a0, vI x, a2, a3, a4, a5, a6] (vI x :: st) mem := ke_iload_n rfl dX0_maliceOf_35
theorem eX0_maliceOf_36 : ev X m_X0_maliceOf 36 [a0, a1, a2, a3, a4, a5, a6] st mem = ev X m_X0_maliceOf 38 [a0, a1, a2, a3, a4, a5, a6] (vI 6 :: st) mem := ke_bipush (by decide) dX0_maliceOf_36
theorem eX0_maliceOf_38 : ev X m_X0_maliceOf 38 [a0, a1, a2, a3, a4, a5, a6] (vI y :: vI x :: st) mem = ev X m_X0_maliceOf 39 [a0, a1, a2, a3, a4, a5, a6] (vI (w32 (x * y)) :: st) mem := ke_imul dX0_maliceOf_38
theorem eX0_maliceOf_39 : ev X m_X0_maliceOf 39 [a0, a1, vI x, a3, a4, a5, a6] st mem = ev X m_X0_maliceOf 40 [a0, a1, vI x, a3, a4, a5, a6] (vI x :: st) mem := ke_iload_n rfl dX0_maliceOf_39
theorem eX0_maliceOf_40 : ev X m_X0_maliceOf 40 [a0, a1, a2, a3, a4, a5, a6] (vI y :: vI x :: st) mem = ev X m_X0_maliceOf 41 [a0, a1, a2, a3, a4, a5, a6] (vI (w32 (x + y)) :: st) mem := ke_iadd dX0_maliceOf_40
theorem eX0_maliceOf_41 : ev X m_X0_maliceOf 41 [a0, a1, a2, a3, a4, a5, a6] (vI x :: vR r :: st) mem = evb X (aget mem r x) m_X0_maliceOf 42 [a0, a1, a2, a3, a4, a5, a6] st mem := ke_iaload dX0_maliceOf_41
theorem eX0_maliceOf_42 : ev X m_X0_maliceOf 42 [a0, a1, a2, a3, a4, a5, a6] (vI x :: st) mem = ev X m_X0_maliceOf 43 [a0, a1, a2, vI x, a4, a5, a6] st mem := ke_istore_n (Nat.le_of_ble_eq_true rfl) rfl dX0_maliceOf_42
theorem eX0_maliceOf_43 : ev X m_X0_maliceOf 43 [vR r, a1, a2, a3, a4, a5, a6] st mem = ev X m_X0_maliceOf 44 [vR r, a1, a2, a3, a4, a5, a6] (vR r :: st) mem := ke_aload_n rfl dX0_maliceOf_43
theorem eX0_maliceOf_44 : ev X m_X0_maliceOf 44 [a0, a1, a2, a3, a4, a5, a6] (vR r :: st) mem = evb X (fget mem r 0 4) m_X0_maliceOf 47 [a0, a1, a2, a3, a4, a5, a6] st mem := ke_getf rfl dX0_maliceOf_44
theorem eX0_maliceOf_47 : ev X m_X0_maliceOf 47 [a0, vI x, a2, a3, a4, a5, a6] st mem = ev X m_X0_maliceOf 48 [a0, vI x, a2, a3, a4, a5, a6] (vI x :: st) mem := ke_iload_n rfl dX0_maliceOf_47
theorem eX0_maliceOf_48 : ev X m_X0_maliceOf 48 [a0, a1, a2, a3, a4, a5, a6] (vI x :: vR r :: st) mem = evb X (aget mem r x) m_X0_maliceOf 49 [a0, a1, a2, a3, a4, a5, a6] st mem := ke_iaload dX0_maliceOf_48
theorem eX0_maliceOf_49 : ev X m_X0_maliceOf 49 [a0, a1, a2, a3, a4, a5, a6] (vI x :: st) mem = ev X m_X0_maliceOf 51 [a0, a1, a2, a3, vI x, a5, a6] st mem := ke_istore (Nat.le_of_ble_eq_true rfl) rfl dX0_maliceOf_49
theorem eX0_maliceOf_51 : ev X m_X0_maliceOf 51 [vR r, a1, a2, a3, a4, a5, a6] st mem = ev X m_X0_maliceOf 52 [vR r, a1, a2, a3, a4, a5, a6] (vR r :: st) mem := ke_aload_n rfl dX0_maliceOf_51
theorem eX0_maliceOf_52 : ev X m_X0_maliceOf 52 [a0, a1, a2, a3, a4, a5, a6] (vR r :: st) mem = evb X (fget mem r 0 5) m_X0_maliceOf 55 [a0, a1, a2, a3, a4, a5, a6] st mem := ke_getf rfl dX0_maliceOf_52
theorem eX0_maliceOf_55 : ev X m_X0_maliceOf 55 [a0, vI x, a2, a3, a4, a5, a6] st mem = ev X m_X0_maliceOf 56 [a0, vI x, a2, a3, a4, a5, a6] (vI x :: st) mem := ke_iload_n rfl dX0_maliceOf_55
theorem eX0_maliceOf_56 : ev X m_X0_maliceOf 56 [a0, a1, a2, a3, a4, a5, a6] (vI x :: vR r :: st) mem = evb X (aget mem r x) m_X0_maliceOf 57 [a0, a1, a2, a3, a4, a5, a6] st mem := ke_iaload dX0_maliceOf_56
theorem eX0_maliceOf_57 : ev X m_X0_maliceOf 57 [vR r, a1, a2, a3, a4, a5, a6] st mem = ev X m_X0_maliceOf 58 [vR r, a1, a2, a3, a4, a5, a6] (vR r :: st) mem := ke_aload_n rfl dX0_maliceOf_57
theorem eX0_maliceOf_58 : ev X m_X0_maliceOf 58 [a0, a1, a2, a3, a4, a5, a6] (vR r :: st) mem = evb X (fget mem r 0 5) m_X0_maliceOf 61 [a0, a1, a2, a3, a4, a5, a6] st mem := ke_getf rfl dX0_maliceOf_58
theorem eX0_maliceOf_61 : ev X m_X0_maliceOf 61 [a0, a1, vI x, a3, a4, a5, a6] st mem = ev X m_X0_maliceOf 62 [a0, a1, vI x, a3, a4, a5, a6] (vI x :: st) mem := ke_iload_n rfl dX0_maliceOf_61
theorem eX0_maliceOf_62 : ev X m_X0_maliceOf 62 [a0, a1, a2, a3, a4, a5, a6] (vI x :: vR r :: st) mem = evb X (aget mem r x) m_X0_maliceOf 63 [a0, a1, a2, a3, a4, a5, a6] st mem := ke_iaload dX0_maliceOf_62
theorem eX0_maliceOf_63 : ev X m_X0_maliceOf 63 [a0, a1, a2, a3, a4, a5, a6] (vI y :: vI x :: st) mem = ev X m_X0_maliceOf 64 [a0, a1, a2, a3, a4, a5, a6] (vI (w32 (x - y)) :: st) mem := ke_isub dX0_maliceOf_63
theorem eX0_maliceOf_64 : ev X m_X0_maliceOf 64 [a0, a1, a2, a3, a4, a5, a6] (vI x :: st) mem = ev X m_X0_maliceOf 66 [a0, a1, a2, a3, a4, vI x, a6] st mem := ke_istore (Nat.le_of_ble_eq_true rfl) rfl dX0_maliceOf_64
theorem eX0_maliceOf_66 : ev X m_X0_maliceOf 66 [a0, a1, a2, vI x, a4, a5, a6] st mem = ev X m_X0_maliceOf 67 [a0, a1, a2, vI x, a4, a5, a6] (vI x :: st) mem := ke_iload_n rfl dX0_maliceOf_66
theorem eX0_maliceOf_67 : ev X m_X0_maliceOf 67 [a0, a1, a2, a3, a4, a5, a6] (vI x :: st) mem = if 0 < x then ev X m_X0_maliceOf 70 [a0, a1, a2, a3, a4, a5, a6] st mem else ev X m_X0_maliceOf 77 [a0, a1, a2, a3, a4, a5, a6] st mem := ke_if_le dX0_maliceOf_67 rfl
theorem eX0_maliceOf_70 : ev X m_X0_maliceOf 70 [a0, a1, a2, vI x, a4, a5, a6] st mem = ev X m_X0_maliceOf 71 [a0, a1, a2, vI x, a4, a5, a6] (vI x :: st) mem := ke_iload_n rfl dX0_maliceOf_70
theorem eX0_maliceOf_71 : ev X m_X0_maliceOf 71 [a0, a1, a2, a3, vI x, a5, a6] st mem = ev X m_X0_maliceOf 73 [a0, a1, a2, a3, vI x, a5, a6] (vI x :: st) mem := ke_iload rfl dX0_maliceOf_71
theorem eX0_maliceOf_73 : ev X m_X0_maliceOf 73 [a0, a1, a2, a3, a4, a5, a6] (vI y :: vI x :: st) mem = ev X m_X0_maliceOf 74 [a0, a1, a2, a3, a4, a5, a6] (vI (w32 (x + y)) :: st) mem := ke_iadd dX0_maliceOf_73
theorem eX0_maliceOf_74 : ev X m_X0_maliceOf 74 [a0, a1, a2, a3, a4, a5, a6] st mem = ev X m_X0_maliceOf 78 [a0, a1, a2, a3, a4, a5, a6] st mem := ke_goto dX0_maliceOf_74 rfl
theorem eX0_maliceOf_77 : ev X m_X0_maliceOf 77 [a0, a1, a2, a3, a4, a5, a6] st mem = ev X m_X0_maliceOf 78 [a0, a1, a2, a3, a4, a5, a6] (vI 0 :: st) mem := ke_iconst (by decide) dX0_maliceOf_77
theorem eX0_maliceOf_78 : ev X m_X0_maliceOf 78 [a0, a1, a2, a3, a4, a5, a6] (vI x :: st) mem = ev X m_X0_maliceOf 80 [a0, a1, a2, a3, a4, a5, vI x] st mem := ke_istore (Nat.le_of_ble_eq_true rfl) rfl dX0_maliceOf_78
theorem eX0_maliceOf_80 : ev X m_X0_maliceOf 80 [vR r, a1, a2, a3, a4, a5, a6] st mem = ev X m_X0_maliceOf 81 [vR r, a1, a2, a3, a4, a5, a6] (vR r :: st) mem := ke_aload_n rfl dX0_maliceOf_80
theorem eX0_maliceOf_81 : ev X m_X0_maliceOf 81 [a0, a1, a2, a3, a4, a5, a6] (vR r :: st) mem = evb X (fget mem r 0 3) m_X0_maliceOf 84 [a0, a1, a2, a3, a4, a5, a6] st mem := ke_getf rfl dX0_maliceOf_81
theorem eX0_maliceOf_84 : ev X m_X0_maliceOf 84 [a0, vI x, a2, a3, a4, a5, a6] st mem = ev X m_X0_maliceOf 85 [a0, vI x, a2, a3, a4, a5, a6] (vI x :: st) mem := ke_iload_n rfl dX0_maliceOf_84
theorem eX0_maliceOf_85 : ev X m_X0_maliceOf 85 [a0, a1, a2, a3, a4, a5, a6] (vI x :: vR r :: st) mem = evb X (aget mem r x) m_X0_maliceOf 86 [a0, a1, a2, a3, a4, a5, a6] st mem := ke_iaload dX0_maliceOf_85
theorem eX0_maliceOf_86 : ev X m_X0_maliceOf 86 [a0, a1, a2, a3, a4, a5, a6] (vI x :: st) mem = if x = 1 then ev X m_X0_maliceOf 120 [a0, a1, a2, a3, a4, a5, a6] st mem else if x = 2 then ev X m_X0_maliceOf 124 [a0, a1, a2, a3, a4, a5, a6] st mem else if x = 3 then ev X m_X0_maliceOf 127 [a0, a1, a2, a3, a4, a5, a6] st mem else if x = 4 then ev X m_X0_maliceOf 132 [a0, a1, a2, a3, a4, a5, a6] st mem else if x = 5 then ev X m_X0_maliceOf 139 [a0, a1, a2, a3, a4, a5, a6] st mem else ev X m_X0_maliceOf 162 [a0, a1, a2, a3, a4, a5, a6] st mem := by
  by_cases h0 : x = 1
  · subst h0; rw [if_pos rfl]; exact ke_swT dX0_maliceOf_86 (by decide) (by decide) (off := 34) rfl rfl
  rw [if_neg h0]
  by_cases h1 : x = 2
  · subst h1; rw [if_pos rfl]; exact ke_swT dX0_maliceOf_86 (by decide) (by decide) (off := 38) rfl rfl
  rw [if_neg h1]
  by_cases h2 : x = 3
  · subst h2; rw [if_pos rfl]; exact ke_swT dX0_maliceOf_86 (by decide) (by decide) (off := 41) rfl rfl
  rw [if_neg h2]
  by_cases h3 : x = 4
  · subst h3; rw [if_pos rfl]; exact ke_swT dX0_maliceOf_86 (by decide) (by decide) (off := 46) rfl rfl
  rw [if_neg h3]
  by_cases h4 : x = 5
  · subst h4; rw [if_pos rfl]; exact ke_swT dX0_maliceOf_86 (by decide) (by decide) (off := 53) rfl rfl
  rw [if_neg h4]
  exact ke_swD dX0_maliceOf_86 (by omega) rfl
theorem eX0_maliceOf_120 : ev X m_X0_maliceOf 120 [a0, a1, a2, vI x, a4, a5, a6] st mem = ev X m_X0_maliceOf 121 [a0, a1, a2, vI x, a4, a5, a6] (vI x :: st) mem := ke_iload_n rfl dX0_maliceOf_120
theorem eX0_maliceOf_121 : ev X m_X0_maliceOf 121 [a0, a1, a2, a3, a4, a5, a6] st mem = ev X m_X0_maliceOf 122 [a0, a1, a2, a3, a4, a5, a6] (vI 2 :: st) mem := ke_iconst (by decide) dX0_maliceOf_121
theorem eX0_maliceOf_122 : ev X m_X0_maliceOf 122 [a0, a1, a2, a3, a4, a5, a6] (vI y :: vI x :: st) mem = if y = 0 then none else ev X m_X0_maliceOf 123 [a0, a1, a2, a3, a4, a5, a6] (vI (w32 (x.tdiv y)) :: st) mem := ke_idiv dX0_maliceOf_122
theorem eX0_maliceOf_123 : ev X m_X0_maliceOf 123 [a0, a1, a2, a3, a4, a5, a6] [vI x] mem = some (some (vI x), mem) := ke_ireturn dX0_maliceOf_123 rfl
theorem eX0_maliceOf_124 : ev X m_X0_maliceOf 124 [a0, a1, a2, a3, a4, a5, vI x] st mem = ev X m_X0_maliceOf 126 [a0, a1, a2, a3, a4, a5, vI x] (vI x :: st) mem := ke_iload rfl dX0_maliceOf_124
theorem eX0_maliceOf_126 : ev X m_X0_maliceOf 126 [a0, a1, a2, a3, a4, a5, a6] [vI x] mem = some (some (vI x), mem) := ke_ireturn dX0_maliceOf_126 rfl
theorem eX0_maliceOf_127 : ev X m_X0_maliceOf 127 [a0, a1, a2, a3, a4, a5, a6] st mem = ev X m_X0_maliceOf 128 [a0, a1, a2, a3, a4, a5, a6] (vI 2 :: st) mem := ke_iconst (by decide) dX0_maliceOf_127
theorem eX0_maliceOf_128 : ev X m_X0_maliceOf 128 [a0, a1, a2, a3, a4, a5, vI x] st mem = ev X m_X0_maliceOf 130 [a0, a1, a2, a3, a4, a5, vI x] (vI x :: st) mem := ke_iload rfl dX0_maliceOf_128
theorem eX0_maliceOf_130 : ev X m_X0_maliceOf 130 [a0, a1, a2, a3, a4, a5, a6] (vI y :: vI x :: st) mem = ev X m_X0_maliceOf 131 [a0, a1, a2, a3, a4, a5, a6] (vI (w32 (x * y)) :: st) mem := ke_imul dX0_maliceOf_130
theorem eX0_maliceOf_131 : ev X m_X0_maliceOf 131 [a0, a1, a2, a3, a4, a5, a6] [vI x] mem = some (some (vI x), mem) := ke_ireturn dX0_maliceOf_131 rfl
theorem eX0_maliceOf_132 : ev X m_X0_maliceOf 132 [a0, a1, a2, vI x, a4, a5, a6] st mem = ev X m_X0_maliceOf 133 [a0, a1, a2, vI x, a4, a5, a6] (vI x :: st) mem := ke_iload_n rfl dX0_maliceOf_132
theorem eX0_maliceOf_133 : ev X m_X0_maliceOf 133 [a0, a1, a2, a3, a4, a5, a6] st mem = ev X m_X0_maliceOf 134 [a0, a1, a2, a3, a4, a5, a6] (vI 2 :: st) mem := ke_iconst (by decide) dX0_maliceOf_133
theorem eX0_maliceOf_134 : ev X m_X0_maliceOf 134 [a0, a1, a2, a3, a4, a5, a6] (vI y :: vI x :: st) mem = if y = 0 then none else ev X m_X0_maliceOf 135 [a0, a1, a2, a3, a4, a5, a6] (vI (w32 (x.tdiv y)) :: st) mem := ke_idiv dX0_maliceOf_134
theorem eX0_maliceOf_135 : ev X m_X0_maliceOf 135 [a0, a1, a2, a3, vI x, a5, a6] st mem = ev X m_X0_maliceOf 137 [a0, a1, a2, a3, vI x, a5, a6] (vI x :: st) mem := ke_iload rfl dX0_maliceOf_135
theorem eX0_maliceOf_137 : ev X m_X0_maliceOf 137 [a0, a1, a2, a3, a4, a5, a6] (vI y :: vI x :: st) mem = ev X m_X0_maliceOf 138 [a0, a1, a2, a3, a4, a5, a6] (vI (w32 (x + y)) :: st) mem := ke_iadd dX0_maliceOf_137
theorem eX0_maliceOf_138 : ev X m_X0_maliceOf 138 [a0, a1, a2, a3, a4, a5, a6] [vI x] mem = some (some (vI x), mem) := ke_ireturn dX0_maliceOf_138 rfl
theorem eX0_maliceOf_139 : ev X m_X0_maliceOf 139 [a0, a1, a2, a3, a4, vI x, a6] st mem = ev X m_X0_maliceOf 141 [a0, a1, a2, a3, a4, vI x, a6] (vI x :: st) mem := ke_iload rfl dX0_maliceOf_139
theorem eX0_maliceOf_141 : ev X m_X0_maliceOf 141 [a0, a1, a2, a3, a4, a5, a6] st mem = ev X m_X0_maliceOf 143 [a0, a1, a2, a3, a4, a5, a6] (vI 10 :: st) mem := ke_bipush (by decide) dX0_maliceOf_141
theorem eX0_maliceOf_143 : ev X m_X0_maliceOf 143 [a0, a1, a2, a3, a4, a5, a6] (vI y :: vI x :: st) mem = if x < y then ev X m_X0_maliceOf 146 [a0, a1, a2, a3, a4, a5, a6] st mem else ev X m_X0_maliceOf 153 [a0, a1, a2, a3, a4, a5, a6] st mem := ke_icmp_ge dX0_maliceOf_143 rfl
theorem eX0_maliceOf_146 : ev X m_X0_maliceOf 146 [a0, a1, a2, a3, a4, vI x, a6] st mem = ev X m_X0_maliceOf 148 [a0, a1, a2, a3, a4, vI x, a6] (vI x :: st) mem := ke_iload rfl dX0_maliceOf_146
theorem eX0_maliceOf_148 : ev X m_X0_maliceOf 148 [a0, a1, a2, a3, a4, a5, a6] st mem = ev X m_X0_maliceOf 150 [a0, a1, a2, a3, a4, a5, a6] (vI (-10) :: st) mem := ke_bipush (by decide) dX0_maliceOf_148
theorem eX0_maliceOf_150 : ev X m_X0_maliceOf 150 [a0, a1, a2, a3, a4, a5, a6] (vI y :: vI x :: st) mem = if y < x then ev X m_X0_maliceOf 157 [a0, a1, a2, a3, a4, a5, a6] st mem else ev X m_X0_maliceOf 153 [a0, a1, a2, a3, a4, a5, a6] st mem := ke_icmp_gt dX0_maliceOf_150 rfl
theorem eX0_maliceOf_153 : ev X m_X0_maliceOf 153 [a0, a1, a2, a3, a4, a5, a6] st mem = ev X m_X0_maliceOf 154 [a0, a1, a2, a3, a4, a5, a6] (vI 0 :: st) mem := ke_iconst (by decide) dX0_maliceOf_153
theorem eX0_maliceOf_154 : ev X m_X0_maliceOf 154 [a0, a1, a2, a3, a4, a5, a6] st mem = ev X m_X0_maliceOf 161 [a0, a1, a2, a3, a4, a5, a6] st mem := ke_goto dX0_maliceOf_154 rfl
theorem eX0_maliceOf_157 : ev X m_X0_maliceOf 157 [a0, a1, a2, a3, a4, a5, a6] st mem = ev X m_X0_maliceOf 158 [a0, a1, a2, a3, a4, a5, a6] (vI 2 :: st) mem := ke_iconst (by decide) dX0_maliceOf_157
theorem eX0_maliceOf_158 : ev X m_X0_maliceOf 158 [a0, a1, a2, a3, a4, a5, vI x] st mem = ev X m_X0_maliceOf 160 [a0, a1, a2, a3, a4, a5, vI x] (vI x :: st) mem := ke_iload rfl dX0_maliceOf_158
theorem eX0_maliceOf_160 : ev X m_X0_maliceOf 160 [a0, a1, a2, a3, a4, a5, a6] (vI y :: vI x :: st) mem = ev X m_X0_maliceOf 161 [a0, a1, a2, a3, a4, a5, a6] (vI (w32 (x * y)) :: st) mem := ke_imul dX0_maliceOf_160
theorem eX0_maliceOf_161 : ev X m_X0_maliceOf 161 [a0, a1, a2, a3, a4, a5, a6] [vI x] mem = some (some (vI x), mem) := ke_ireturn dX0_maliceOf_161 rfl
theorem eX0_maliceOf_162 : ev X m_X0_maliceOf 162 [a0, a1, a2, vI x, a4, a5, a6] st mem = ev X m_X0_maliceOf 163 [a0, a1, a2, vI x, a4, a5, a6] (vI x :: st) mem := ke_iload_n rfl dX0_maliceOf_162
theorem eX0_maliceOf_163 : ev X m_X0_maliceOf 163 [a0, a1, a2, a3, a4, a5, a6] [vI x] mem = some (some (vI x), mem) := ke_ireturn dX0_maliceOf_163 rfl
theorem eX0_carries_0 : ev X m_X0_carries 0 [a0, a1, a2] st mem = ev X m_X0_carries 1 [a0, a1, a2] (vI 0 :: st) mem := ke_iconst (by decide) dX0_carries_0
theorem eX0_carries_1 : ev X m_X0_carries 1 [a0, a1, a2] (vI x :: st) mem = ev X m_X0_carries 2 [a0, a1, vI x] st mem := ke_istore_n (Nat.le_of_ble_eq_true rfl) rfl dX0_carries_1
theorem eX0_carries_2 : ev X m_X0_carries 2 [a0, a1, vI x] st mem = ev X m_X0_carries 3 [a0, a1, vI x] (vI x :: st) mem := ke_iload_n rfl dX0_carries_2
theorem eX0_carries_3 : ev X m_X0_carries 3 [vR r, a1, a2] st mem = ev X m_X0_carries 4 [vR r, a1, a2] (vR r :: st) mem := ke_aload_n rfl dX0_carries_3
theorem eX0_carries_4 : ev X m_X0_carries 4 [a0, a1, a2] (vR r :: st) mem = evb X (fget mem r 0 1) m_X0_carries 7 [a0, a1, a2] st mem := ke_getf rfl dX0_carries_4
theorem eX0_carries_7 : ev X m_X0_carries 7 [a0, a1, a2] (vI y :: vI x :: st) mem = if x < y then ev X m_X0_carries 10 [a0, a1, a2] st mem else ev X m_X0_carries 38 [a0, a1, a2] st mem := ke_icmp_ge dX0_carries_7 rfl
theorem eX0_carries_10 : ev X m_X0_carries 10 [vR r, a1, a2] st mem = ev X m_X0_carries 11 [vR r, a1, a2] (vR r :: st) mem := ke_aload_n rfl dX0_carries_10
theorem eX0_carries_11 : ev X m_X0_carries 11 [a0, a1, a2] (vR r :: st) mem = evb X (fget mem r 0 10) m_X0_carries 14 [a0, a1, a2] st mem := ke_getf rfl dX0_carries_11
theorem eX0_carries_14 : ev X m_X0_carries 14 [a0, a1, vI x] st mem = ev X m_X0_carries 15 [a0, a1, vI x] (vI x :: st) mem := ke_iload_n rfl dX0_carries_14
theorem eX0_carries_15 : ev X m_X0_carries 15 [a0, a1, a2] (vI x :: vR r :: st) mem = evb X (aget mem r x) m_X0_carries 16 [a0, a1, a2] st mem := ke_iaload dX0_carries_15
theorem eX0_carries_16 : ev X m_X0_carries 16 [a0, a1, a2] st mem = ev X m_X0_carries 17 [a0, a1, a2] (vI 1 :: st) mem := ke_iconst (by decide) dX0_carries_16
theorem eX0_carries_17 : ev X m_X0_carries 17 [a0, a1, a2] (vI y :: vI x :: st) mem = if x = y then ev X m_X0_carries 20 [a0, a1, a2] st mem else ev X m_X0_carries 32 [a0, a1, a2] st mem := ke_icmp_ne dX0_carries_17 rfl
theorem eX0_carries_20 : ev X m_X0_carries 20 [vR r, a1, a2] st mem = ev X m_X0_carries 21 [vR r, a1, a2] (vR r :: st) mem := ke_aload_n rfl dX0_carries_20
theorem eX0_carries_21 : ev X m_X0_carries 21 [a0, a1, a2] (vR r :: st) mem = evb X (fget mem r 0 11) m_X0_carries 24 [a0, a1, a2] st mem := ke_getf rfl dX0_carries_21
theorem eX0_carries_24 : ev X m_X0_carries 24 [a0, a1, vI x] st mem = ev X m_X0_carries 25 [a0, a1, vI x] (vI x :: st) mem := ke_iload_n rfl dX0_carries_24
theorem eX0_carries_25 : ev X m_X0_carries 25 [a0, a1, a2] (vI x :: vR r :: st) mem = evb X (aget mem r x) m_X0_carries 26 [a0, a1, a2] st mem := ke_iaload dX0_carries_25
theorem eX0_carries_26 : ev X m_X0_carries 26 [a0, vI x, a2] st mem = ev X m_X0_carries 27 [a0, vI x, a2] (vI x :: st) mem := ke_iload_n rfl dX0_carries_26
theorem eX0_carries_27 : ev X m_X0_carries 27 [a0, a1, a2] (vI y :: vI x :: st) mem = if x = y then ev X m_X0_carries 30 [a0, a1, a2] st mem else ev X m_X0_carries 32 [a0, a1, a2] st mem := ke_icmp_ne dX0_carries_27 rfl
theorem eX0_carries_30 : ev X m_X0_carries 30 [a0, a1, a2] st mem = ev X m_X0_carries 31 [a0, a1, a2] (vI 1 :: st) mem := ke_iconst (by decide) dX0_carries_30
theorem eX0_carries_31a : ev X m_X0_carries 31 [a0, a1, a2] [vI 1] mem = some (some (vI 1), mem) := ke_zreturn dX0_carries_31 rfl rfl
theorem eX0_carries_31b : ev X m_X0_carries 31 [a0, a1, a2] [vI 0] mem = some (some (vI 0), mem) := ke_zreturn dX0_carries_31 rfl rfl
theorem eX0_carries_31c {c : Prop} [Decidable c] : ev X m_X0_carries 31 [a0, a1, a2] [vI (if c then 1 else 0)] mem = some (some (vI (if c then 1 else 0)), mem) := ke_zreturn dX0_carries_31 rfl (by split <;> rfl)
theorem eX0_carries_32 : ev X m_X0_carries 32 [a0, a1, vI x] st mem = ev X m_X0_carries 35 [a0, a1, vI (w32 (x + 1))] st mem := ke_iinc rfl (Nat.le_of_ble_eq_true rfl) rfl dX0_carries_32
theorem eX0_carries_35 : ev X m_X0_carries 35 [a0, a1, a2] st mem = ev X m_X0_carries 2 [a0, a1, a2] st mem := ke_goto dX0_carries_35 rfl
theorem eX0_carries_38 : ev X m_X0_carries 38 [a0, a1, a2] st mem = ev X m_X0_carries 39 [a0, a1, a2] (vI 0 :: st) mem := ke_iconst (by decide) dX0_carries_38
theorem eX0_carries_39a : ev X m_X0_carries 39 [a0, a1, a2] [vI 1] mem = some (some (vI 1), mem) := ke_zreturn dX0_carries_39 rfl rfl
theorem eX0_carries_39b : ev X m_X0_carries 39 [a0, a1, a2] [vI 0] mem = some (some (vI 0), mem) := ke_zreturn dX0_carries_39 rfl rfl
theorem eX0_carries_39c {c : Prop} [Decidable c] : ev X m_X0_carries 39 [a0, a1, a2] [vI (if c then 1 else 0)] mem = some (some (vI (if c then 1 else 0)), mem) := ke_zreturn dX0_carries_39 rfl (by split <;> rfl)
theorem eX0_apart_0 : ev X m_X0_apart 0 [vR r, a1, a2] st mem = ev X m_X0_apart 1 [vR r, a1, a2] (vR r :: st) mem := ke_aload_n rfl dX0_apart_0
theorem eX0_apart_1 : ev X m_X0_apart 1 [a0, vI x, a2] st mem = ev X m_X0_apart 2 [a0, vI x, a2] (vI x :: st) mem := ke_iload_n rfl dX0_apart_1
theorem eX0_apart_2 : ev X m_X0_apart 2 [a0, a1, vI x] st mem = ev X m_X0_apart 3 [a0, a1, vI x] (vI x :: st) mem := ke_iload_n rfl dX0_apart_2
theorem eX0_apart_3 : ev X m_X0_apart 3 [a0, a1, a2] (vI n1 :: vI n0 :: vR r :: []) mem = evc X (gR mem r 0 (ev X m_X0_hasPair 0 [vR r, vI n0, vI n1] [] mem)) m_X0_apart 6 [a0, a1, a2] [] := ke_callV (m' := m_X0_hasPair) (as := [vI n0, vI n1]) (n := 2) (rest := []) dX0_apart_3 rfl rfl rfl rfl rfl rfl (Nat.le_of_ble_eq_true rfl) (Nat.le_of_ble_eq_true rfl) (Nat.le_of_ble_eq_true rfl) rfl
theorem eX0_apart_6 : ev X m_X0_apart 6 [a0, a1, a2] (vI x :: st) mem = if x = 0 then ev X m_X0_apart 28 [a0, a1, a2] st mem else ev X m_X0_apart 9 [a0, a1, a2] st mem := ke_if_eq dX0_apart_6 rfl
theorem eX0_apart_9 : ev X m_X0_apart 9 [vR r, a1, a2] st mem = ev X m_X0_apart 10 [vR r, a1, a2] (vR r :: st) mem := ke_aload_n rfl dX0_apart_9
theorem eX0_apart_10 : ev X m_X0_apart 10 [a0, a1, a2] (vR r :: st) mem = evb X (fget mem r 0 5) m_X0_apart 13 [a0, a1, a2] st mem := ke_getf rfl dX0_apart_10
theorem eX0_apart_13 : ev X m_X0_apart 13 [a0, vI x, a2] st mem = ev X m_X0_apart 14 [a0, vI x, a2] (vI x :: st) mem := ke_iload_n rfl dX0_apart_13
theorem eX0_apart_14 : ev X m_X0_apart 14 [a0, a1, a2] (vI x :: vR r :: st) mem = evb X (aget mem r x) m_X0_apart 15 [a0, a1, a2] st mem := ke_iaload dX0_apart_14
theorem eX0_apart_15 : ev X m_X0_apart 15 [vR r, a1, a2] st mem = ev X m_X0_apart 16 [vR r, a1, a2] (vR r :: st) mem := ke_aload_n rfl dX0_apart_15
theorem eX0_apart_16 : ev X m_X0_apart 16 [a0, a1, a2] (vR r :: st) mem = evb X (fget mem r 0 5) m_X0_apart 19 [a0, a1, a2] st mem := ke_getf rfl dX0_apart_16
theorem eX0_apart_19 : ev X m_X0_apart 19 [a0, a1, vI x] st mem = ev X m_X0_apart 20 [a0, a1, vI x] (vI x :: st) mem := ke_iload_n rfl dX0_apart_19
theorem eX0_apart_20 : ev X m_X0_apart 20 [a0, a1, a2] (vI x :: vR r :: st) mem = evb X (aget mem r x) m_X0_apart 21 [a0, a1, a2] st mem := ke_iaload dX0_apart_20
theorem eX0_apart_21 : ev X m_X0_apart 21 [a0, a1, a2] (vI y :: vI x :: st) mem = ev X m_X0_apart 22 [a0, a1, a2] (vI (w32 (x - y)) :: st) mem := ke_isub dX0_apart_21
theorem eX0_apart_22 : ev X m_X0_apart 22 [a0, a1, a2] (vI x :: []) mem = ev X m_X0_apart 25 [a0, a1, a2] (vI (w32 (if 0 ≤ x then x else 0 - x)) :: []) mem := ke_mabs rfl rfl rfl (Nat.le_of_ble_eq_true rfl) (Nat.le_of_ble_eq_true rfl) (Nat.le_of_ble_eq_true rfl) dX0_apart_22
theorem eX0_apart_25 : ev X m_X0_apart 25 [a0, a1, a2] st mem = ev X m_X0_apart 29 [a0, a1, a2] st mem := ke_goto dX0_apart_25 rfl
theorem eX0_apart_28 : ev X m_X0_apart 28 [a0, a1, a2] st mem = ev X m_X0_apart 29 [a0, a1, a2] (vI 0 :: st) mem := ke_iconst (by decide) dX0_apart_28
theorem eX0_apart_29 : ev X m_X0_apart 29 [a0, a1, a2] [vI x] mem = some (some (vI x), mem) := ke_ireturn dX0_apart_29 rfl
theorem eX0_milesOf_0 : ev X m_X0_milesOf 0 [vI x] st mem = ev X m_X0_milesOf 1 [vI x] (vI x :: st) mem := ke_iload_n rfl dX0_milesOf_0
theorem eX0_milesOf_1 : ev X m_X0_milesOf 1 [a0] (vI x :: st) mem = if x = 0 then ev X m_X0_milesOf 36 [a0] st mem else if x = 1 then ev X m_X0_milesOf 38 [a0] st mem else if x = 5 then ev X m_X0_milesOf 40 [a0] st mem else ev X m_X0_milesOf 42 [a0] st mem := by
  by_cases h0 : x = 0
  · subst h0; rw [if_pos rfl]; exact ke_swL dX0_milesOf_1 (by decide) (off := 35) (by decide) rfl
  rw [if_neg h0]
  by_cases h1 : x = 1
  · subst h1; rw [if_pos rfl]; exact ke_swL dX0_milesOf_1 (by decide) (off := 37) (by decide) rfl
  rw [if_neg h1]
  by_cases h2 : x = 5
  · subst h2; rw [if_pos rfl]; exact ke_swL dX0_milesOf_1 (by decide) (off := 39) (by decide) rfl
  rw [if_neg h2]
  exact ke_swL dX0_milesOf_1 (by decide) (off := 41) (by simp [Op.lookupswitch.offset, h0, Ne.symm h0, h1, Ne.symm h1, h2, Ne.symm h2]) rfl
theorem eX0_milesOf_36 : ev X m_X0_milesOf 36 [a0] st mem = ev X m_X0_milesOf 37 [a0] (vI 2 :: st) mem := ke_iconst (by decide) dX0_milesOf_36
theorem eX0_milesOf_37 : ev X m_X0_milesOf 37 [a0] [vI x] mem = some (some (vI x), mem) := ke_ireturn dX0_milesOf_37 rfl
theorem eX0_milesOf_38 : ev X m_X0_milesOf 38 [a0] st mem = ev X m_X0_milesOf 39 [a0] (vI 1 :: st) mem := ke_iconst (by decide) dX0_milesOf_38
theorem eX0_milesOf_39 : ev X m_X0_milesOf 39 [a0] [vI x] mem = some (some (vI x), mem) := ke_ireturn dX0_milesOf_39 rfl
theorem eX0_milesOf_40 : ev X m_X0_milesOf 40 [a0] st mem = ev X m_X0_milesOf 41 [a0] (vI 4 :: st) mem := ke_iconst (by decide) dX0_milesOf_40
theorem eX0_milesOf_41 : ev X m_X0_milesOf 41 [a0] [vI x] mem = some (some (vI x), mem) := ke_ireturn dX0_milesOf_41 rfl
theorem eX0_milesOf_42 : ev X m_X0_milesOf 42 [a0] st mem = ev X m_X0_milesOf 43 [a0] (vI 3 :: st) mem := ke_iconst (by decide) dX0_milesOf_42
theorem eX0_milesOf_43 : ev X m_X0_milesOf 43 [a0] [vI x] mem = some (some (vI x), mem) := ke_ireturn dX0_milesOf_43 rfl
theorem eX0_daysOnRoad_0 : ev X m_X0_daysOnRoad 0 [a0, vI x] st mem = ev X m_X0_daysOnRoad 1 [a0, vI x] (vI x :: st) mem := ke_iload_n rfl dX0_daysOnRoad_0
theorem eX0_daysOnRoad_1 : ev X m_X0_daysOnRoad 1 [a0, a1] st mem = ev X m_X0_daysOnRoad 2 [a0, a1] (vI 1 :: st) mem := ke_iconst (by decide) dX0_daysOnRoad_1
theorem eX0_daysOnRoad_2 : ev X m_X0_daysOnRoad 2 [a0, a1] (vI y :: vI x :: st) mem = if x < y then ev X m_X0_daysOnRoad 5 [a0, a1] st mem else ev X m_X0_daysOnRoad 9 [a0, a1] st mem := ke_icmp_ge dX0_daysOnRoad_2 rfl
theorem eX0_daysOnRoad_5 : ev X m_X0_daysOnRoad 5 [a0, a1] st mem = ev X m_X0_daysOnRoad 6 [a0, a1] (vI 1 :: st) mem := ke_iconst (by decide) dX0_daysOnRoad_5
theorem eX0_daysOnRoad_6 : ev X m_X0_daysOnRoad 6 [a0, a1] st mem = ev X m_X0_daysOnRoad 18 [a0, a1] st mem := ke_goto dX0_daysOnRoad_6 rfl
theorem eX0_daysOnRoad_9 : ev X m_X0_daysOnRoad 9 [vI x, a1] st mem = ev X m_X0_daysOnRoad 10 [vI x, a1] (vI x :: st) mem := ke_iload_n rfl dX0_daysOnRoad_9
theorem eX0_daysOnRoad_10 : ev X m_X0_daysOnRoad 10 [a0, vI x] st mem = ev X m_X0_daysOnRoad 11 [a0, vI x] (vI x :: st) mem := ke_iload_n rfl dX0_daysOnRoad_10
theorem eX0_daysOnRoad_11 : ev X m_X0_daysOnRoad 11 [a0, a1] (vI y :: vI x :: st) mem = ev X m_X0_daysOnRoad 12 [a0, a1] (vI (w32 (x + y)) :: st) mem := ke_iadd dX0_daysOnRoad_11
theorem eX0_daysOnRoad_12 : ev X m_X0_daysOnRoad 12 [a0, a1] st mem = ev X m_X0_daysOnRoad 13 [a0, a1] (vI 1 :: st) mem := ke_iconst (by decide) dX0_daysOnRoad_12
theorem eX0_daysOnRoad_13 : ev X m_X0_daysOnRoad 13 [a0, a1] (vI y :: vI x :: st) mem = ev X m_X0_daysOnRoad 14 [a0, a1] (vI (w32 (x - y)) :: st) mem := ke_isub dX0_daysOnRoad_13
theorem eX0_daysOnRoad_14 : ev X m_X0_daysOnRoad 14 [a0, vI x] st mem = ev X m_X0_daysOnRoad 15 [a0, vI x] (vI x :: st) mem := ke_iload_n rfl dX0_daysOnRoad_14
theorem eX0_daysOnRoad_15 : ev X m_X0_daysOnRoad 15 [a0, a1] (vI y :: vI x :: st) mem = if y = 0 then none else ev X m_X0_daysOnRoad 16 [a0, a1] (vI (w32 (x.tdiv y)) :: st) mem := ke_idiv dX0_daysOnRoad_15
theorem eX0_daysOnRoad_16 : ev X m_X0_daysOnRoad 16 [a0, a1] st mem = ev X m_X0_daysOnRoad 17 [a0, a1] (vI 1 :: st) mem := ke_iconst (by decide) dX0_daysOnRoad_16
theorem eX0_daysOnRoad_17 : ev X m_X0_daysOnRoad 17 [a0, a1] (vI y :: vI x :: st) mem = ev X m_X0_daysOnRoad 18 [a0, a1] (vI (w32 (x + y)) :: st) mem := ke_iadd dX0_daysOnRoad_17
theorem eX0_daysOnRoad_18 : ev X m_X0_daysOnRoad 18 [a0, a1] [vI x] mem = some (some (vI x), mem) := ke_ireturn dX0_daysOnRoad_18 rfl
theorem eX0_coolDown_0 : ev X m_X0_coolDown 0 [a0, a1] st mem = ev X m_X0_coolDown 1 [a0, a1] (vI 0 :: st) mem := ke_iconst (by decide) dX0_coolDown_0
theorem eX0_coolDown_1 : ev X m_X0_coolDown 1 [a0, a1] (vI x :: st) mem = ev X m_X0_coolDown 2 [a0, vI x] st mem := ke_istore_n (Nat.le_of_ble_eq_true rfl) rfl dX0_coolDown_1
theorem eX0_coolDown_2 : ev X m_X0_coolDown 2 [a0, vI x] st mem = ev X m_X0_coolDown 3 [a0, vI x] (vI x :: st) mem := ke_iload_n rfl dX0_coolDown_2
theorem eX0_coolDown_3 : ev X m_X0_coolDown 3 [vR r, a1] st mem = ev X m_X0_coolDown 4 [vR r, a1] (vR r :: st) mem := ke_aload_n rfl dX0_coolDown_3
theorem eX0_coolDown_4 : ev X m_X0_coolDown 4 [a0, a1] (vR r :: st) mem = evb X (fget mem r 0 7) m_X0_coolDown 7 [a0, a1] st mem := ke_getf rfl dX0_coolDown_4
theorem eX0_coolDown_7 : ev X m_X0_coolDown 7 [a0, a1] (vR r :: st) mem = evb X (alen mem r) m_X0_coolDown 8 [a0, a1] st mem := ke_alen dX0_coolDown_7
theorem eX0_coolDown_8 : ev X m_X0_coolDown 8 [a0, a1] (vI y :: vI x :: st) mem = if x < y then ev X m_X0_coolDown 11 [a0, a1] st mem else ev X m_X0_coolDown 36 [a0, a1] st mem := ke_icmp_ge dX0_coolDown_8 rfl
theorem eX0_coolDown_11 : ev X m_X0_coolDown 11 [vR r, a1] st mem = ev X m_X0_coolDown 12 [vR r, a1] (vR r :: st) mem := ke_aload_n rfl dX0_coolDown_11
theorem eX0_coolDown_12 : ev X m_X0_coolDown 12 [a0, a1] (vR r :: st) mem = evb X (fget mem r 0 7) m_X0_coolDown 15 [a0, a1] st mem := ke_getf rfl dX0_coolDown_12
theorem eX0_coolDown_15 : ev X m_X0_coolDown 15 [a0, vI x] st mem = ev X m_X0_coolDown 16 [a0, vI x] (vI x :: st) mem := ke_iload_n rfl dX0_coolDown_15
theorem eX0_coolDown_16 : ev X m_X0_coolDown 16 [a0, a1] (vI x :: vR r :: st) mem = evb X (aget mem r x) m_X0_coolDown 17 [a0, a1] st mem := ke_iaload dX0_coolDown_16
theorem eX0_coolDown_17 : ev X m_X0_coolDown 17 [a0, a1] (vI x :: st) mem = if 0 < x then ev X m_X0_coolDown 20 [a0, a1] st mem else ev X m_X0_coolDown 30 [a0, a1] st mem := ke_if_le dX0_coolDown_17 rfl
theorem eX0_coolDown_20 : ev X m_X0_coolDown 20 [vR r, a1] st mem = ev X m_X0_coolDown 21 [vR r, a1] (vR r :: st) mem := ke_aload_n rfl dX0_coolDown_20
theorem eX0_coolDown_21 : ev X m_X0_coolDown 21 [a0, a1] (vR r :: st) mem = evb X (fget mem r 0 7) m_X0_coolDown 24 [a0, a1] st mem := ke_getf rfl dX0_coolDown_21
theorem eX0_coolDown_24 : ev X m_X0_coolDown 24 [a0, vI x] st mem = ev X m_X0_coolDown 25 [a0, vI x] (vI x :: st) mem := ke_iload_n rfl dX0_coolDown_24
theorem eX0_coolDown_25 : ev X m_X0_coolDown 25 [a0, a1] (vI x :: vR r :: st) mem = ev X m_X0_coolDown 26 [a0, a1] (vI x :: vR r :: vI x :: vR r :: st) mem := ke_dup2 dX0_coolDown_25
theorem eX0_coolDown_26 : ev X m_X0_coolDown 26 [a0, a1] (vI x :: vR r :: st) mem = evb X (aget mem r x) m_X0_coolDown 27 [a0, a1] st mem := ke_iaload dX0_coolDown_26
theorem eX0_coolDown_27 : ev X m_X0_coolDown 27 [a0, a1] st mem = ev X m_X0_coolDown 28 [a0, a1] (vI 1 :: st) mem := ke_iconst (by decide) dX0_coolDown_27
theorem eX0_coolDown_28 : ev X m_X0_coolDown 28 [a0, a1] (vI y :: vI x :: st) mem = ev X m_X0_coolDown 29 [a0, a1] (vI (w32 (x - y)) :: st) mem := ke_isub dX0_coolDown_28
theorem eX0_coolDown_29 : ev X m_X0_coolDown 29 [a0, a1] (vI y :: vI x :: vR r :: st) mem = evm X (aput mem r x y) m_X0_coolDown 30 [a0, a1] st := ke_iastore dX0_coolDown_29
theorem eX0_coolDown_30 : ev X m_X0_coolDown 30 [a0, vI x] st mem = ev X m_X0_coolDown 33 [a0, vI (w32 (x + 1))] st mem := ke_iinc rfl (Nat.le_of_ble_eq_true rfl) rfl dX0_coolDown_30
theorem eX0_coolDown_33 : ev X m_X0_coolDown 33 [a0, a1] st mem = ev X m_X0_coolDown 2 [a0, a1] st mem := ke_goto dX0_coolDown_33 rfl
theorem eX0_coolDown_36 : ev X m_X0_coolDown 36 [a0, a1] [] mem = some (none, mem) := ke_return dX0_coolDown_36 rfl
theorem eX2_tell_0 : ev X m_X2_tell 0 [vR r, a1, a2, a3, a4] st mem = ev X m_X2_tell 1 [vR r, a1, a2, a3, a4] (vR r :: st) mem := ke_aload_n rfl dX2_tell_0
theorem eX2_tell_0x : ev X m_X2_tell 0 [vX r, a1, a2, a3, a4] st mem = ev X m_X2_tell 1 [vX r, a1, a2, a3, a4] (vX r :: st) mem := ke_xload_n rfl dX2_tell_0
theorem eX2_tell_1 : ev X m_X2_tell 1 [a0, vI x, a2, a3, a4] st mem = ev X m_X2_tell 2 [a0, vI x, a2, a3, a4] (vI x :: st) mem := ke_iload_n rfl dX2_tell_1
theorem eX2_tell_2 : ev X m_X2_tell 2 [a0, a1, a2, a3, a4] st mem = ev X m_X2_tell 3 [a0, a1, a2, a3, a4] (vI 1 :: st) mem := ke_iconst (by decide) dX2_tell_2
theorem eX2_tell_3 : ev X m_X2_tell 3 [a0, a1, a2, a3, a4] (vI y :: vI x :: st) mem = ev X m_X2_tell 4 [a0, a1, a2, a3, a4] (vI (w32 (x + y)) :: st) mem := ke_iadd dX2_tell_3
theorem eX2_tell_4 : ev X m_X2_tell 4 [a0, a1, a2, a3, a4] (vI n0 :: vR r :: []) mem = evc X (gR mem r 2 (ev X m_X2_digitAt 0 [vR r, vI n0] [] mem)) m_X2_tell 7 [a0, a1, a2, a3, a4] [] := ke_callV (m' := m_X2_digitAt) (as := [vI n0]) (n := 1) (rest := []) dX2_tell_4 rfl rfl rfl rfl rfl rfl (Nat.le_of_ble_eq_true rfl) (Nat.le_of_ble_eq_true rfl) (Nat.le_of_ble_eq_true rfl) rfl
theorem eX2_tell_7 : ev X m_X2_tell 7 [a0, a1, a2, a3, a4] (vI x :: st) mem = ev X m_X2_tell 8 [a0, a1, a2, vI x, a4] st mem := ke_istore_n (Nat.le_of_ble_eq_true rfl) rfl dX2_tell_7
theorem eX2_tell_8 : ev X m_X2_tell 8 [vR r, a1, a2, a3, a4] st mem = ev X m_X2_tell 9 [vR r, a1, a2, a3, a4] (vR r :: st) mem := ke_aload_n rfl dX2_tell_8
theorem eX2_tell_8x : ev X m_X2_tell 8 [vX r, a1, a2, a3, a4] st mem = ev X m_X2_tell 9 [vX r, a1, a2, a3, a4] (vX r :: st) mem := ke_xload_n rfl dX2_tell_8
theorem eX2_tell_9 : ev X m_X2_tell 9 [a0, vI x, a2, a3, a4] st mem = ev X m_X2_tell 10 [a0, vI x, a2, a3, a4] (vI x :: st) mem := ke_iload_n rfl dX2_tell_9
theorem eX2_tell_10 : ev X m_X2_tell 10 [a0, a1, a2, a3, a4] st mem = ev X m_X2_tell 11 [a0, a1, a2, a3, a4] (vI 2 :: st) mem := ke_iconst (by decide) dX2_tell_10
theorem eX2_tell_11 : ev X m_X2_tell 11 [a0, a1, a2, a3, a4] (vI y :: vI x :: st) mem = ev X m_X2_tell 12 [a0, a1, a2, a3, a4] (vI (w32 (x + y)) :: st) mem := ke_iadd dX2_tell_11
theorem eX2_tell_12 : ev X m_X2_tell 12 [a0, a1, a2, a3, a4] (vI n0 :: vR r :: []) mem = evc X (gR mem r 2 (ev X m_X2_digitAt 0 [vR r, vI n0] [] mem)) m_X2_tell 15 [a0, a1, a2, a3, a4] [] := ke_callV (m' := m_X2_digitAt) (as := [vI n0]) (n := 1) (rest := []) dX2_tell_12 rfl rfl rfl rfl rfl rfl (Nat.le_of_ble_eq_true rfl) (Nat.le_of_ble_eq_true rfl) (Nat.le_of_ble_eq_true rfl) rfl
theorem eX2_tell_15 : ev X m_X2_tell 15 [a0, a1, a2, a3, a4] (vI x :: st) mem = ev X m_X2_tell 17 [a0, a1, a2, a3, vI x] st mem := ke_istore (Nat.le_of_ble_eq_true rfl) rfl dX2_tell_15
theorem eX2_tell_17 : ev X m_X2_tell 17 [vR r, a1, a2, a3, a4] st mem = ev X m_X2_tell 18 [vR r, a1, a2, a3, a4] (vR r :: st) mem := ke_aload_n rfl dX2_tell_17
theorem eX2_tell_17x : ev X m_X2_tell 17 [vX r, a1, a2, a3, a4] st mem = ev X m_X2_tell 18 [vX r, a1, a2, a3, a4] (vX r :: st) mem := ke_xload_n rfl dX2_tell_17
theorem eX2_tell_18 : ev X m_X2_tell 18 [a0, vI x, a2, a3, a4] st mem = ev X m_X2_tell 19 [a0, vI x, a2, a3, a4] (vI x :: st) mem := ke_iload_n rfl dX2_tell_18
theorem eX2_tell_19 : ev X m_X2_tell 19 [a0, a1, a2, a3, a4] (vI n0 :: vR r :: []) mem = evc X (gR mem r 2 (ev X m_X2_letterAt 0 [vR r, vI n0] [] mem)) m_X2_tell 22 [a0, a1, a2, a3, a4] [] := ke_callV (m' := m_X2_letterAt) (as := [vI n0]) (n := 1) (rest := []) dX2_tell_19 rfl rfl rfl rfl rfl rfl (Nat.le_of_ble_eq_true rfl) (Nat.le_of_ble_eq_true rfl) (Nat.le_of_ble_eq_true rfl) rfl
theorem eX2_tell_22 : ev X m_X2_tell 22 [a0, a1, a2, a3, a4] (vI x :: st) mem = if x = 99 then ev X m_X2_tell 114 [a0, a1, a2, a3, a4] st mem else if x = 104 then ev X m_X2_tell 99 [a0, a1, a2, a3, a4] st mem else if x = 109 then ev X m_X2_tell 132 [a0, a1, a2, a3, a4] st mem else if x = 112 then ev X m_X2_tell 72 [a0, a1, a2, a3, a4] st mem else if x = 115 then ev X m_X2_tell 122 [a0, a1, a2, a3, a4] st mem else ev X m_X2_tell 140 [a0, a1, a2, a3, a4] st mem := by
  by_cases h0 : x = 99
  · subst h0; rw [if_pos rfl]; exact ke_swL dX2_tell_22 (by decide) (off := 92) (by decide) rfl
  rw [if_neg h0]
  by_cases h1 : x = 104
  · subst h1; rw [if_pos rfl]; exact ke_swL dX2_tell_22 (by decide) (off := 77) (by decide) rfl
  rw [if_neg h1]
  by_cases h2 : x = 109
  · subst h2; rw [if_pos rfl]; exact ke_swL dX2_tell_22 (by decide) (off := 110) (by decide) rfl
  rw [if_neg h2]
  by_cases h3 : x = 112
  · subst h3; rw [if_pos rfl]; exact ke_swL dX2_tell_22 (by decide) (off := 50) (by decide) rfl
  rw [if_neg h3]
  by_cases h4 : x = 115
  · subst h4; rw [if_pos rfl]; exact ke_swL dX2_tell_22 (by decide) (off := 100) (by decide) rfl
  rw [if_neg h4]
  exact ke_swL dX2_tell_22 (by decide) (off := 118) (by simp [Op.lookupswitch.offset, h0, Ne.symm h0, h1, Ne.symm h1, h2, Ne.symm h2, h3, Ne.symm h3, h4, Ne.symm h4]) rfl
theorem eX2_tell_72 : ev X m_X2_tell 72 [a0, a1, vR r, a3, a4] st mem = ev X m_X2_tell 73 [a0, a1, vR r, a3, a4] (vR r :: st) mem := ke_aload_n rfl dX2_tell_72
theorem eX2_tell_72x : ev X m_X2_tell 72 [a0, a1, vX r, a3, a4] st mem = ev X m_X2_tell 73 [a0, a1, vX r, a3, a4] (vX r :: st) mem := ke_xload_n rfl dX2_tell_72
theorem eX2_tell_73 : ev X m_X2_tell 73 [a0, a1, a2, a3, a4] st mem = ev X m_X2_tell 75 [a0, a1, a2, a3, a4] (vX 8 :: st) mem := ke_ldcS rfl rfl dX2_tell_73
theorem eX2_tell_75 : ev X m_X2_tell 75 [vR r, a1, a2, a3, a4] st mem = ev X m_X2_tell 76 [vR r, a1, a2, a3, a4] (vR r :: st) mem := ke_aload_n rfl dX2_tell_75
theorem eX2_tell_75x : ev X m_X2_tell 75 [vX r, a1, a2, a3, a4] st mem = ev X m_X2_tell 76 [vX r, a1, a2, a3, a4] (vX r :: st) mem := ke_xload_n rfl dX2_tell_75
theorem eX2_tell_76 : ev X m_X2_tell 76 [a0, vI x, a2, a3, a4] st mem = ev X m_X2_tell 77 [a0, vI x, a2, a3, a4] (vI x :: st) mem := ke_iload_n rfl dX2_tell_76
theorem eX2_tell_77 : ev X m_X2_tell 77 [a0, a1, a2, a3, a4] st mem = ev X m_X2_tell 78 [a0, a1, a2, a3, a4] (vI 1 :: st) mem := ke_iconst (by decide) dX2_tell_77
theorem eX2_tell_78 : ev X m_X2_tell 78 [a0, a1, a2, a3, a4] (vI y :: vI x :: st) mem = ev X m_X2_tell 79 [a0, a1, a2, a3, a4] (vI (w32 (x + y)) :: st) mem := ke_iadd dX2_tell_78
theorem eX2_tell_79 : ev X m_X2_tell 79 [a0, a1, a2, a3, a4] (vI n0 :: vR r :: [s0, s1]) mem = evc X (gR mem r 2 (ev X m_X2_letterAt 0 [vR r, vI n0] [] mem)) m_X2_tell 82 [a0, a1, a2, a3, a4] [s0, s1] := ke_callV (m' := m_X2_letterAt) (as := [vI n0]) (n := 1) (rest := [s0, s1]) dX2_tell_79 rfl rfl rfl rfl rfl rfl (Nat.le_of_ble_eq_true rfl) (Nat.le_of_ble_eq_true rfl) (Nat.le_of_ble_eq_true rfl) rfl
theorem eX2_tell_82 : ev X m_X2_tell 82 [a0, a1, a2, a3, a4] (vI x :: st) mem = ev X m_X2_tell 83 [a0, a1, a2, a3, a4] (vI (i2c32 x) :: st) mem := ke_i2c dX2_tell_82
theorem eX2_tell_83 : ev X m_X2_tell 83 [a0, a1, a2, a3, a4] (vI n0 :: vX r :: [s0]) mem = evc X (gX r (ev X m_J0_indexOf_0f7a4 0 [vX r, vI n0] [] mem)) m_X2_tell 86 [a0, a1, a2, a3, a4] [s0] := ke_callX (m' := m_J0_indexOf_0f7a4) (as := [vI n0]) (n := 1) (rest := [s0]) dX2_tell_83 rfl rfl rfl rfl rfl rfl (Nat.le_of_ble_eq_true rfl) (Nat.le_of_ble_eq_true rfl) rfl rfl
theorem eX2_tell_86 : ev X m_X2_tell 86 [a0, a1, a2, a3, vI x] st mem = ev X m_X2_tell 88 [a0, a1, a2, a3, vI x] (vI x :: st) mem := ke_iload rfl dX2_tell_86
theorem eX2_tell_88 : ev X m_X2_tell 88 [vR r, a1, a2, a3, a4] st mem = ev X m_X2_tell 89 [vR r, a1, a2, a3, a4] (vR r :: st) mem := ke_aload_n rfl dX2_tell_88
theorem eX2_tell_88x : ev X m_X2_tell 88 [vX r, a1, a2, a3, a4] st mem = ev X m_X2_tell 89 [vX r, a1, a2, a3, a4] (vX r :: st) mem := ke_xload_n rfl dX2_tell_88
theorem eX2_tell_89 : ev X m_X2_tell 89 [a0, vI x, a2, a3, a4] st mem = ev X m_X2_tell 90 [a0, vI x, a2, a3, a4] (vI x :: st) mem := ke_iload_n rfl dX2_tell_89
theorem eX2_tell_90 : ev X m_X2_tell 90 [a0, a1, a2, a3, a4] st mem = ev X m_X2_tell 91 [a0, a1, a2, a3, a4] (vI 3 :: st) mem := ke_iconst (by decide) dX2_tell_90
theorem eX2_tell_91 : ev X m_X2_tell 91 [a0, a1, a2, a3, a4] (vI y :: vI x :: st) mem = ev X m_X2_tell 92 [a0, a1, a2, a3, a4] (vI (w32 (x + y)) :: st) mem := ke_iadd dX2_tell_91
theorem eX2_tell_92 : ev X m_X2_tell 92 [a0, a1, a2, a3, a4] (vI n0 :: vR r :: [s0, s1, s2]) mem = evc X (gR mem r 2 (ev X m_X2_numberAt 0 [vR r, vI n0] [] mem)) m_X2_tell 95 [a0, a1, a2, a3, a4] [s0, s1, s2] := ke_callV (m' := m_X2_numberAt) (as := [vI n0]) (n := 1) (rest := [s0, s1, s2]) dX2_tell_92 rfl rfl rfl rfl rfl rfl (Nat.le_of_ble_eq_true rfl) (Nat.le_of_ble_eq_true rfl) (Nat.le_of_ble_eq_true rfl) rfl
theorem eX2_tell_95 : ev X m_X2_tell 95 [a0, a1, a2, a3, a4] (vI n2 :: vI n1 :: vI n0 :: vR r :: []) mem = evc X (gR mem r 0 (ev X m_X0_addPerson 0 [vR r, vI n0, vI n1, vI n2] [] mem)) m_X2_tell 98 [a0, a1, a2, a3, a4] [] := ke_callV (m' := m_X0_addPerson) (as := [vI n0, vI n1, vI n2]) (n := 3) (rest := []) dX2_tell_95 rfl rfl rfl rfl rfl rfl (Nat.le_of_ble_eq_true rfl) (Nat.le_of_ble_eq_true rfl) (Nat.le_of_ble_eq_true rfl) rfl
theorem eX2_tell_98a : ev X m_X2_tell 98 [a0, a1, a2, a3, a4] [vI 1] mem = some (some (vI 1), mem) := ke_zreturn dX2_tell_98 rfl rfl
theorem eX2_tell_98b : ev X m_X2_tell 98 [a0, a1, a2, a3, a4] [vI 0] mem = some (some (vI 0), mem) := ke_zreturn dX2_tell_98 rfl rfl
theorem eX2_tell_98c {c : Prop} [Decidable c] : ev X m_X2_tell 98 [a0, a1, a2, a3, a4] [vI (if c then 1 else 0)] mem = some (some (vI (if c then 1 else 0)), mem) := ke_zreturn dX2_tell_98 rfl (by split <;> rfl)
theorem eX2_tell_99 : ev X m_X2_tell 99 [a0, a1, vR r, a3, a4] st mem = ev X m_X2_tell 100 [a0, a1, vR r, a3, a4] (vR r :: st) mem := ke_aload_n rfl dX2_tell_99
theorem eX2_tell_99x : ev X m_X2_tell 99 [a0, a1, vX r, a3, a4] st mem = ev X m_X2_tell 100 [a0, a1, vX r, a3, a4] (vX r :: st) mem := ke_xload_n rfl dX2_tell_99
theorem eX2_tell_100 : ev X m_X2_tell 100 [a0, a1, a2, vI x, a4] st mem = ev X m_X2_tell 101 [a0, a1, a2, vI x, a4] (vI x :: st) mem := ke_iload_n rfl dX2_tell_100
theorem eX2_tell_101 : ev X m_X2_tell 101 [a0, a1, a2, a3, vI x] st mem = ev X m_X2_tell 103 [a0, a1, a2, a3, vI x] (vI x :: st) mem := ke_iload rfl dX2_tell_101
theorem eX2_tell_103 : ev X m_X2_tell 103 [vR r, a1, a2, a3, a4] st mem = ev X m_X2_tell 104 [vR r, a1, a2, a3, a4] (vR r :: st) mem := ke_aload_n rfl dX2_tell_103
theorem eX2_tell_103x : ev X m_X2_tell 103 [vX r, a1, a2, a3, a4] st mem = ev X m_X2_tell 104 [vX r, a1, a2, a3, a4] (vX r :: st) mem := ke_xload_n rfl dX2_tell_103
theorem eX2_tell_104 : ev X m_X2_tell 104 [a0, vI x, a2, a3, a4] st mem = ev X m_X2_tell 105 [a0, vI x, a2, a3, a4] (vI x :: st) mem := ke_iload_n rfl dX2_tell_104
theorem eX2_tell_105 : ev X m_X2_tell 105 [a0, a1, a2, a3, a4] st mem = ev X m_X2_tell 106 [a0, a1, a2, a3, a4] (vI 3 :: st) mem := ke_iconst (by decide) dX2_tell_105
theorem eX2_tell_106 : ev X m_X2_tell 106 [a0, a1, a2, a3, a4] (vI y :: vI x :: st) mem = ev X m_X2_tell 107 [a0, a1, a2, a3, a4] (vI (w32 (x + y)) :: st) mem := ke_iadd dX2_tell_106
theorem eX2_tell_107 : ev X m_X2_tell 107 [a0, a1, a2, a3, a4] (vI n0 :: vR r :: [s0, s1, s2]) mem = evc X (gR mem r 2 (ev X m_X2_numberAt 0 [vR r, vI n0] [] mem)) m_X2_tell 110 [a0, a1, a2, a3, a4] [s0, s1, s2] := ke_callV (m' := m_X2_numberAt) (as := [vI n0]) (n := 1) (rest := [s0, s1, s2]) dX2_tell_107 rfl rfl rfl rfl rfl rfl (Nat.le_of_ble_eq_true rfl) (Nat.le_of_ble_eq_true rfl) (Nat.le_of_ble_eq_true rfl) rfl
theorem eX2_tell_110 : ev X m_X2_tell 110 [a0, a1, a2, a3, a4] (vI n2 :: vI n1 :: vI n0 :: vR r :: []) mem = evc X (gR mem r 0 (ev X m_X0_setHate 0 [vR r, vI n0, vI n1, vI n2] [] mem)) m_X2_tell 113 [a0, a1, a2, a3, a4] [] := ke_callV (m' := m_X0_setHate) (as := [vI n0, vI n1, vI n2]) (n := 3) (rest := []) dX2_tell_110 rfl rfl rfl rfl rfl rfl (Nat.le_of_ble_eq_true rfl) (Nat.le_of_ble_eq_true rfl) (Nat.le_of_ble_eq_true rfl) rfl
theorem eX2_tell_113a : ev X m_X2_tell 113 [a0, a1, a2, a3, a4] [vI 1] mem = some (some (vI 1), mem) := ke_zreturn dX2_tell_113 rfl rfl
theorem eX2_tell_113b : ev X m_X2_tell 113 [a0, a1, a2, a3, a4] [vI 0] mem = some (some (vI 0), mem) := ke_zreturn dX2_tell_113 rfl rfl
theorem eX2_tell_113c {c : Prop} [Decidable c] : ev X m_X2_tell 113 [a0, a1, a2, a3, a4] [vI (if c then 1 else 0)] mem = some (some (vI (if c then 1 else 0)), mem) := ke_zreturn dX2_tell_113 rfl (by split <;> rfl)
theorem eX2_tell_114 : ev X m_X2_tell 114 [a0, a1, vR r, a3, a4] st mem = ev X m_X2_tell 115 [a0, a1, vR r, a3, a4] (vR r :: st) mem := ke_aload_n rfl dX2_tell_114
theorem eX2_tell_114x : ev X m_X2_tell 114 [a0, a1, vX r, a3, a4] st mem = ev X m_X2_tell 115 [a0, a1, vX r, a3, a4] (vX r :: st) mem := ke_xload_n rfl dX2_tell_114
theorem eX2_tell_115 : ev X m_X2_tell 115 [a0, a1, a2, vI x, a4] st mem = ev X m_X2_tell 116 [a0, a1, a2, vI x, a4] (vI x :: st) mem := ke_iload_n rfl dX2_tell_115
theorem eX2_tell_116 : ev X m_X2_tell 116 [a0, a1, a2, a3, vI x] st mem = ev X m_X2_tell 118 [a0, a1, a2, a3, vI x] (vI x :: st) mem := ke_iload rfl dX2_tell_116
theorem eX2_tell_118 : ev X m_X2_tell 118 [a0, a1, a2, a3, a4] (vI n1 :: vI n0 :: vR r :: []) mem = evc X (gR mem r 0 (ev X m_X0_addParcel 0 [vR r, vI n0, vI n1] [] mem)) m_X2_tell 121 [a0, a1, a2, a3, a4] [] := ke_callV (m' := m_X0_addParcel) (as := [vI n0, vI n1]) (n := 2) (rest := []) dX2_tell_118 rfl rfl rfl rfl rfl rfl (Nat.le_of_ble_eq_true rfl) (Nat.le_of_ble_eq_true rfl) (Nat.le_of_ble_eq_true rfl) rfl
theorem eX2_tell_121a : ev X m_X2_tell 121 [a0, a1, a2, a3, a4] [vI 1] mem = some (some (vI 1), mem) := ke_zreturn dX2_tell_121 rfl rfl
theorem eX2_tell_121b : ev X m_X2_tell 121 [a0, a1, a2, a3, a4] [vI 0] mem = some (some (vI 0), mem) := ke_zreturn dX2_tell_121 rfl rfl
theorem eX2_tell_121c {c : Prop} [Decidable c] : ev X m_X2_tell 121 [a0, a1, a2, a3, a4] [vI (if c then 1 else 0)] mem = some (some (vI (if c then 1 else 0)), mem) := ke_zreturn dX2_tell_121 rfl (by split <;> rfl)
theorem eX2_tell_122 : ev X m_X2_tell 122 [a0, a1, vR r, a3, a4] st mem = ev X m_X2_tell 123 [a0, a1, vR r, a3, a4] (vR r :: st) mem := ke_aload_n rfl dX2_tell_122
theorem eX2_tell_122x : ev X m_X2_tell 122 [a0, a1, vX r, a3, a4] st mem = ev X m_X2_tell 123 [a0, a1, vX r, a3, a4] (vX r :: st) mem := ke_xload_n rfl dX2_tell_122
theorem eX2_tell_123 : ev X m_X2_tell 123 [a0, a1, a2, vI x, a4] st mem = ev X m_X2_tell 124 [a0, a1, a2, vI x, a4] (vI x :: st) mem := ke_iload_n rfl dX2_tell_123
theorem eX2_tell_124 : ev X m_X2_tell 124 [a0, a1, a2, a3, vI x] st mem = ev X m_X2_tell 126 [a0, a1, a2, a3, vI x] (vI x :: st) mem := ke_iload rfl dX2_tell_124
theorem eX2_tell_126 : ev X m_X2_tell 126 [a0, a1, a2, a3, a4] st mem = ev X m_X2_tell 128 [a0, a1, a2, a3, a4] (vI 10 :: st) mem := ke_bipush (by decide) dX2_tell_126
theorem eX2_tell_128 : ev X m_X2_tell 128 [a0, a1, a2, a3, a4] (vI n2 :: vI n1 :: vI n0 :: vR r :: []) mem = evc X (gR mem r 0 (ev X m_X0_addHate 0 [vR r, vI n0, vI n1, vI n2, vS] [] mem)) m_X2_tell 131 [a0, a1, a2, a3, a4] [] := ke_callV (m' := m_X0_addHate) (as := [vI n0, vI n1, vI n2]) (n := 3) (rest := []) dX2_tell_128 rfl rfl rfl rfl rfl rfl (Nat.le_of_ble_eq_true rfl) (Nat.le_of_ble_eq_true rfl) (Nat.le_of_ble_eq_true rfl) rfl
theorem eX2_tell_131a : ev X m_X2_tell 131 [a0, a1, a2, a3, a4] [vI 1] mem = some (some (vI 1), mem) := ke_zreturn dX2_tell_131 rfl rfl
theorem eX2_tell_131b : ev X m_X2_tell 131 [a0, a1, a2, a3, a4] [vI 0] mem = some (some (vI 0), mem) := ke_zreturn dX2_tell_131 rfl rfl
theorem eX2_tell_131c {c : Prop} [Decidable c] : ev X m_X2_tell 131 [a0, a1, a2, a3, a4] [vI (if c then 1 else 0)] mem = some (some (vI (if c then 1 else 0)), mem) := ke_zreturn dX2_tell_131 rfl (by split <;> rfl)
theorem eX2_tell_132 : ev X m_X2_tell 132 [a0, a1, vR r, a3, a4] st mem = ev X m_X2_tell 133 [a0, a1, vR r, a3, a4] (vR r :: st) mem := ke_aload_n rfl dX2_tell_132
theorem eX2_tell_132x : ev X m_X2_tell 132 [a0, a1, vX r, a3, a4] st mem = ev X m_X2_tell 133 [a0, a1, vX r, a3, a4] (vX r :: st) mem := ke_xload_n rfl dX2_tell_132
theorem eX2_tell_133 : ev X m_X2_tell 133 [a0, a1, a2, vI x, a4] st mem = ev X m_X2_tell 134 [a0, a1, a2, vI x, a4] (vI x :: st) mem := ke_iload_n rfl dX2_tell_133
theorem eX2_tell_134 : ev X m_X2_tell 134 [a0, a1, a2, a3, vI x] st mem = ev X m_X2_tell 136 [a0, a1, a2, a3, vI x] (vI x :: st) mem := ke_iload rfl dX2_tell_134
theorem eX2_tell_136 : ev X m_X2_tell 136 [a0, a1, a2, a3, a4] (vI n1 :: vI n0 :: vR r :: []) mem = evc X (gR mem r 0 (ev X m_X0_makePeace 0 [vR r, vI n0, vI n1] [] mem)) m_X2_tell 139 [a0, a1, a2, a3, a4] [] := ke_callV (m' := m_X0_makePeace) (as := [vI n0, vI n1]) (n := 2) (rest := []) dX2_tell_136 rfl rfl rfl rfl rfl rfl (Nat.le_of_ble_eq_true rfl) (Nat.le_of_ble_eq_true rfl) (Nat.le_of_ble_eq_true rfl) rfl
theorem eX2_tell_139a : ev X m_X2_tell 139 [a0, a1, a2, a3, a4] [vI 1] mem = some (some (vI 1), mem) := ke_zreturn dX2_tell_139 rfl rfl
theorem eX2_tell_139b : ev X m_X2_tell 139 [a0, a1, a2, a3, a4] [vI 0] mem = some (some (vI 0), mem) := ke_zreturn dX2_tell_139 rfl rfl
theorem eX2_tell_139c {c : Prop} [Decidable c] : ev X m_X2_tell 139 [a0, a1, a2, a3, a4] [vI (if c then 1 else 0)] mem = some (some (vI (if c then 1 else 0)), mem) := ke_zreturn dX2_tell_139 rfl (by split <;> rfl)
theorem eX2_tell_140 : ev X m_X2_tell 140 [vR r, a1, a2, a3, a4] st mem = ev X m_X2_tell 141 [vR r, a1, a2, a3, a4] (vR r :: st) mem := ke_aload_n rfl dX2_tell_140
theorem eX2_tell_140x : ev X m_X2_tell 140 [vX r, a1, a2, a3, a4] st mem = ev X m_X2_tell 141 [vX r, a1, a2, a3, a4] (vX r :: st) mem := ke_xload_n rfl dX2_tell_140
theorem eX2_tell_141 : ev X m_X2_tell 141 [a0, vI x, a2, a3, a4] st mem = ev X m_X2_tell 142 [a0, vI x, a2, a3, a4] (vI x :: st) mem := ke_iload_n rfl dX2_tell_141
theorem eX2_tell_142 : ev X m_X2_tell 142 [a0, a1, a2, a3, a4] st mem = ev X m_X2_tell 143 [a0, a1, a2, a3, a4] (vI 1 :: st) mem := ke_iconst (by decide) dX2_tell_142
theorem eX2_tell_143 : ev X m_X2_tell 143 [a0, a1, a2, a3, a4] (vI y :: vI x :: st) mem = ev X m_X2_tell 144 [a0, a1, a2, a3, a4] (vI (w32 (x + y)) :: st) mem := ke_iadd dX2_tell_143
theorem eX2_tell_144 : ev X m_X2_tell 144 [a0, a1, a2, a3, a4] (vI n0 :: vR r :: []) mem = evc X (gR mem r 2 (ev X m_X2_numberAt 0 [vR r, vI n0] [] mem)) m_X2_tell 147 [a0, a1, a2, a3, a4] [] := ke_callV (m' := m_X2_numberAt) (as := [vI n0]) (n := 1) (rest := []) dX2_tell_144 rfl rfl rfl rfl rfl rfl (Nat.le_of_ble_eq_true rfl) (Nat.le_of_ble_eq_true rfl) (Nat.le_of_ble_eq_true rfl) rfl
theorem eX2_tell_147 : ev X m_X2_tell 147 [a0, a1, vR r, a3, a4] st mem = ev X m_X2_tell 148 [a0, a1, vR r, a3, a4] (vR r :: st) mem := ke_aload_n rfl dX2_tell_147
theorem eX2_tell_147x : ev X m_X2_tell 147 [a0, a1, vX r, a3, a4] st mem = ev X m_X2_tell 148 [a0, a1, vX r, a3, a4] (vX r :: st) mem := ke_xload_n rfl dX2_tell_147
theorem eX2_tell_148 : ev X m_X2_tell 148 [a0, a1, a2, a3, a4] (vR r1 :: vI n0 :: []) mem = evc X (ev X m_X2_letDaysPass 0 [vI n0, vR r1] [] mem) m_X2_tell 151 [a0, a1, a2, a3, a4] [] := ke_callS (m' := m_X2_letDaysPass) (as := [vI n0, vR r1]) (n := 2) (rest := []) dX2_tell_148 rfl (by decide) rfl rfl rfl rfl rfl (Nat.le_of_ble_eq_true rfl) (Nat.le_of_ble_eq_true rfl) rfl
theorem eX2_tell_151a : ev X m_X2_tell 151 [a0, a1, a2, a3, a4] [vI 1] mem = some (some (vI 1), mem) := ke_zreturn dX2_tell_151 rfl rfl
theorem eX2_tell_151b : ev X m_X2_tell 151 [a0, a1, a2, a3, a4] [vI 0] mem = some (some (vI 0), mem) := ke_zreturn dX2_tell_151 rfl rfl
theorem eX2_tell_151c {c : Prop} [Decidable c] : ev X m_X2_tell 151 [a0, a1, a2, a3, a4] [vI (if c then 1 else 0)] mem = some (some (vI (if c then 1 else 0)), mem) := ke_zreturn dX2_tell_151 rfl (by split <;> rfl)
theorem eX2_digitAt_0 : ev X m_X2_digitAt 0 [vR r, a1] st mem = ev X m_X2_digitAt 1 [vR r, a1] (vR r :: st) mem := ke_aload_n rfl dX2_digitAt_0
theorem eX2_digitAt_0x : ev X m_X2_digitAt 0 [vX r, a1] st mem = ev X m_X2_digitAt 1 [vX r, a1] (vX r :: st) mem := ke_xload_n rfl dX2_digitAt_0
theorem eX2_digitAt_1 : ev X m_X2_digitAt 1 [a0, vI x] st mem = ev X m_X2_digitAt 2 [a0, vI x] (vI x :: st) mem := ke_iload_n rfl dX2_digitAt_1
theorem eX2_digitAt_2 : ev X m_X2_digitAt 2 [a0, a1] (vI n0 :: vR r :: []) mem = evc X (gR mem r 2 (ev X m_X2_letterAt 0 [vR r, vI n0] [] mem)) m_X2_digitAt 5 [a0, a1] [] := ke_callV (m' := m_X2_letterAt) (as := [vI n0]) (n := 1) (rest := []) dX2_digitAt_2 rfl rfl rfl rfl rfl rfl (Nat.le_of_ble_eq_true rfl) (Nat.le_of_ble_eq_true rfl) (Nat.le_of_ble_eq_true rfl) rfl
theorem eX2_digitAt_5 : ev X m_X2_digitAt 5 [a0, a1] st mem = ev X m_X2_digitAt 7 [a0, a1] (vI 48 :: st) mem := ke_bipush (by decide) dX2_digitAt_5
theorem eX2_digitAt_7 : ev X m_X2_digitAt 7 [a0, a1] (vI y :: vI x :: st) mem = ev X m_X2_digitAt 8 [a0, a1] (vI (w32 (x - y)) :: st) mem := ke_isub dX2_digitAt_7
theorem eX2_digitAt_8 : ev X m_X2_digitAt 8 [a0, a1] [vI x] mem = some (some (vI x), mem) := ke_ireturn dX2_digitAt_8 rfl
theorem eX2_numberAt_0 : ev X m_X2_numberAt 0 [a0, a1] st mem = ev X m_X2_numberAt 2 [a0, a1] (vI 10 :: st) mem := ke_bipush (by decide) dX2_numberAt_0
theorem eX2_numberAt_2 : ev X m_X2_numberAt 2 [vR r, a1] st mem = ev X m_X2_numberAt 3 [vR r, a1] (vR r :: st) mem := ke_aload_n rfl dX2_numberAt_2
theorem eX2_numberAt_2x : ev X m_X2_numberAt 2 [vX r, a1] st mem = ev X m_X2_numberAt 3 [vX r, a1] (vX r :: st) mem := ke_xload_n rfl dX2_numberAt_2
theorem eX2_numberAt_3 : ev X m_X2_numberAt 3 [a0, vI x] st mem = ev X m_X2_numberAt 4 [a0, vI x] (vI x :: st) mem := ke_iload_n rfl dX2_numberAt_3
theorem eX2_numberAt_4 : ev X m_X2_numberAt 4 [a0, a1] (vI n0 :: vR r :: [s0]) mem = evc X (gR mem r 2 (ev X m_X2_digitAt 0 [vR r, vI n0] [] mem)) m_X2_numberAt 7 [a0, a1] [s0] := ke_callV (m' := m_X2_digitAt) (as := [vI n0]) (n := 1) (rest := [s0]) dX2_numberAt_4 rfl rfl rfl rfl rfl rfl (Nat.le_of_ble_eq_true rfl) (Nat.le_of_ble_eq_true rfl) (Nat.le_of_ble_eq_true rfl) rfl
theorem eX2_numberAt_7 : ev X m_X2_numberAt 7 [a0, a1] (vI y :: vI x :: st) mem = ev X m_X2_numberAt 8 [a0, a1] (vI (w32 (x * y)) :: st) mem := ke_imul dX2_numberAt_7
theorem eX2_numberAt_8 : ev X m_X2_numberAt 8 [vR r, a1] st mem = ev X m_X2_numberAt 9 [vR r, a1] (vR r :: st) mem := ke_aload_n rfl dX2_numberAt_8
theorem eX2_numberAt_8x : ev X m_X2_numberAt 8 [vX r, a1] st mem = ev X m_X2_numberAt 9 [vX r, a1] (vX r :: st) mem := ke_xload_n rfl dX2_numberAt_8
theorem eX2_numberAt_9 : ev X m_X2_numberAt 9 [a0, vI x] st mem = ev X m_X2_numberAt 10 [a0, vI x] (vI x :: st) mem := ke_iload_n rfl dX2_numberAt_9
theorem eX2_numberAt_10 : ev X m_X2_numberAt 10 [a0, a1] st mem = ev X m_X2_numberAt 11 [a0, a1] (vI 1 :: st) mem := ke_iconst (by decide) dX2_numberAt_10
theorem eX2_numberAt_11 : ev X m_X2_numberAt 11 [a0, a1] (vI y :: vI x :: st) mem = ev X m_X2_numberAt 12 [a0, a1] (vI (w32 (x + y)) :: st) mem := ke_iadd dX2_numberAt_11
theorem eX2_numberAt_12 : ev X m_X2_numberAt 12 [a0, a1] (vI n0 :: vR r :: [s0]) mem = evc X (gR mem r 2 (ev X m_X2_digitAt 0 [vR r, vI n0] [] mem)) m_X2_numberAt 15 [a0, a1] [s0] := ke_callV (m' := m_X2_digitAt) (as := [vI n0]) (n := 1) (rest := [s0]) dX2_numberAt_12 rfl rfl rfl rfl rfl rfl (Nat.le_of_ble_eq_true rfl) (Nat.le_of_ble_eq_true rfl) (Nat.le_of_ble_eq_true rfl) rfl
theorem eX2_numberAt_15 : ev X m_X2_numberAt 15 [a0, a1] (vI y :: vI x :: st) mem = ev X m_X2_numberAt 16 [a0, a1] (vI (w32 (x + y)) :: st) mem := ke_iadd dX2_numberAt_15
theorem eX2_numberAt_16 : ev X m_X2_numberAt 16 [a0, a1] [vI x] mem = some (some (vI x), mem) := ke_ireturn dX2_numberAt_16 rfl
theorem eX0_addPerson_0 : ev X m_X0_addPerson 0 [vR r, a1, a2, a3] st mem = ev X m_X0_addPerson 1 [vR r, a1, a2, a3] (vR r :: st) mem := ke_aload_n rfl dX0_addPerson_0
theorem eX0_addPerson_1 : ev X m_X0_addPerson 1 [a0, a1, a2, a3] (vR r :: st) mem = evb X (fget mem r 0 0) m_X0_addPerson 4 [a0, a1, a2, a3] st mem := ke_getf rfl dX0_addPerson_1
theorem eX0_addPerson_4 : ev X m_X0_addPerson 4 [a0, a1, a2, a3] (vI x :: st) mem = if x < 0 then ev X m_X0_addPerson 22 [a0, a1, a2, a3] st mem else ev X m_X0_addPerson 7 [a0, a1, a2, a3] st mem := ke_if_lt dX0_addPerson_4 rfl
theorem eX0_addPerson_7 : ev X m_X0_addPerson 7 [vR r, a1, a2, a3] st mem = ev X m_X0_addPerson 8 [vR r, a1, a2, a3] (vR r :: st) mem := ke_aload_n rfl dX0_addPerson_7
theorem eX0_addPerson_8 : ev X m_X0_addPerson 8 [a0, a1, a2, a3] (vR r :: st) mem = evb X (fget mem r 0 0) m_X0_addPerson 11 [a0, a1, a2, a3] st mem := ke_getf rfl dX0_addPerson_8
theorem eX0_addPerson_11 : ev X m_X0_addPerson 11 [a0, a1, a2, a3] st mem = ev X m_X0_addPerson 13 [a0, a1, a2, a3] (vI 6 :: st) mem := ke_bipush (by decide) dX0_addPerson_11
theorem eX0_addPerson_13 : ev X m_X0_addPerson 13 [a0, a1, a2, a3] (vI y :: vI x :: st) mem = if x < y then ev X m_X0_addPerson 16 [a0, a1, a2, a3] st mem else ev X m_X0_addPerson 22 [a0, a1, a2, a3] st mem := ke_icmp_ge dX0_addPerson_13 rfl
theorem eX0_addPerson_16 : ev X m_X0_addPerson 16 [a0, a1, a2, vI x] st mem = ev X m_X0_addPerson 17 [a0, a1, a2, vI x] (vI x :: st) mem := ke_iload_n rfl dX0_addPerson_16
theorem eX0_addPerson_17 : ev X m_X0_addPerson 17 [a0, a1, a2, a3] st mem = ev X m_X0_addPerson 19 [a0, a1, a2, a3] (vI 30 :: st) mem := ke_bipush (by decide) dX0_addPerson_17
theorem eX0_addPerson_19 : ev X m_X0_addPerson 19 [a0, a1, a2, a3] (vI y :: vI x :: st) mem = if y < x then ev X m_X0_addPerson 22 [a0, a1, a2, a3] st mem else ev X m_X0_addPerson 24 [a0, a1, a2, a3] st mem := ke_icmp_le dX0_addPerson_19 rfl
theorem eX0_addPerson_22 : ev X m_X0_addPerson 22 [a0, a1, a2, a3] st mem = ev X m_X0_addPerson 23 [a0, a1, a2, a3] (vI 0 :: st) mem := ke_iconst (by decide) dX0_addPerson_22
theorem eX0_addPerson_23a : ev X m_X0_addPerson 23 [a0, a1, a2, a3] [vI 1] mem = some (some (vI 1), mem) := ke_zreturn dX0_addPerson_23 rfl rfl
theorem eX0_addPerson_23b : ev X m_X0_addPerson 23 [a0, a1, a2, a3] [vI 0] mem = some (some (vI 0), mem) := ke_zreturn dX0_addPerson_23 rfl rfl
theorem eX0_addPerson_23c {c : Prop} [Decidable c] : ev X m_X0_addPerson 23 [a0, a1, a2, a3] [vI (if c then 1 else 0)] mem = some (some (vI (if c then 1 else 0)), mem) := ke_zreturn dX0_addPerson_23 rfl (by split <;> rfl)
theorem eX0_addPerson_24 : ev X m_X0_addPerson 24 [vR r, a1, a2, a3] st mem = ev X m_X0_addPerson 25 [vR r, a1, a2, a3] (vR r :: st) mem := ke_aload_n rfl dX0_addPerson_24
theorem eX0_addPerson_25 : ev X m_X0_addPerson 25 [a0, a1, a2, a3] (vR r :: st) mem = evb X (fget mem r 0 3) m_X0_addPerson 28 [a0, a1, a2, a3] st mem := ke_getf rfl dX0_addPerson_25
theorem eX0_addPerson_28 : ev X m_X0_addPerson 28 [vR r, a1, a2, a3] st mem = ev X m_X0_addPerson 29 [vR r, a1, a2, a3] (vR r :: st) mem := ke_aload_n rfl dX0_addPerson_28
theorem eX0_addPerson_29 : ev X m_X0_addPerson 29 [a0, a1, a2, a3] (vR r :: st) mem = evb X (fget mem r 0 0) m_X0_addPerson 32 [a0, a1, a2, a3] st mem := ke_getf rfl dX0_addPerson_29
theorem eX0_addPerson_32 : ev X m_X0_addPerson 32 [a0, vI x, a2, a3] st mem = ev X m_X0_addPerson 33 [a0, vI x, a2, a3] (vI x :: st) mem := ke_iload_n rfl dX0_addPerson_32
theorem eX0_addPerson_33 : ev X m_X0_addPerson 33 [a0, a1, a2, a3] (vI y :: vI x :: vR r :: st) mem = evm X (aput mem r x y) m_X0_addPerson 34 [a0, a1, a2, a3] st := ke_iastore dX0_addPerson_33
theorem eX0_addPerson_34 : ev X m_X0_addPerson 34 [vR r, a1, a2, a3] st mem = ev X m_X0_addPerson 35 [vR r, a1, a2, a3] (vR r :: st) mem := ke_aload_n rfl dX0_addPerson_34
theorem eX0_addPerson_35 : ev X m_X0_addPerson 35 [a0, a1, a2, a3] (vR r :: st) mem = evb X (fget mem r 0 4) m_X0_addPerson 38 [a0, a1, a2, a3] st mem := ke_getf rfl dX0_addPerson_35
theorem eX0_addPerson_38 : ev X m_X0_addPerson 38 [vR r, a1, a2, a3] st mem = ev X m_X0_addPerson 39 [vR r, a1, a2, a3] (vR r :: st) mem := ke_aload_n rfl dX0_addPerson_38
theorem eX0_addPerson_39 : ev X m_X0_addPerson 39 [a0, a1, a2, a3] (vR r :: st) mem = evb X (fget mem r 0 0) m_X0_addPerson 42 [a0, a1, a2, a3] st mem := ke_getf rfl dX0_addPerson_39
theorem eX0_addPerson_42 : ev X m_X0_addPerson 42 [a0, a1, vI x, a3] st mem = ev X m_X0_addPerson 43 [a0, a1, vI x, a3] (vI x :: st) mem := ke_iload_n rfl dX0_addPerson_42
theorem eX0_addPerson_43 : ev X m_X0_addPerson 43 [a0, a1, a2, a3] (vI y :: vI x :: vR r :: st) mem = evm X (aput mem r x y) m_X0_addPerson 44 [a0, a1, a2, a3] st := ke_iastore dX0_addPerson_43
theorem eX0_addPerson_44 : ev X m_X0_addPerson 44 [vR r, a1, a2, a3] st mem = ev X m_X0_addPerson 45 [vR r, a1, a2, a3] (vR r :: st) mem := ke_aload_n rfl dX0_addPerson_44
theorem eX0_addPerson_45 : ev X m_X0_addPerson 45 [a0, a1, a2, a3] (vR r :: st) mem = evb X (fget mem r 0 5) m_X0_addPerson 48 [a0, a1, a2, a3] st mem := ke_getf rfl dX0_addPerson_45
theorem eX0_addPerson_48 : ev X m_X0_addPerson 48 [vR r, a1, a2, a3] st mem = ev X m_X0_addPerson 49 [vR r, a1, a2, a3] (vR r :: st) mem := ke_aload_n rfl dX0_addPerson_48
theorem eX0_addPerson_49 : ev X m_X0_addPerson 49 [a0, a1, a2, a3] (vR r :: st) mem = evb X (fget mem r 0 0) m_X0_addPerson 52 [a0, a1, a2, a3] st mem := ke_getf rfl dX0_addPerson_49
theorem eX0_addPerson_52 : ev X m_X0_addPerson 52 [a0, a1, a2, vI x] st mem = ev X m_X0_addPerson 53 [a0, a1, a2, vI x] (vI x :: st) mem := ke_iload_n rfl dX0_addPerson_52
theorem eX0_addPerson_53 : ev X m_X0_addPerson 53 [a0, a1, a2, a3] (vI y :: vI x :: vR r :: st) mem = evm X (aput mem r x y) m_X0_addPerson 54 [a0, a1, a2, a3] st := ke_iastore dX0_addPerson_53
theorem eX0_addPerson_54 : ev X m_X0_addPerson 54 [vR r, a1, a2, a3] st mem = ev X m_X0_addPerson 55 [vR r, a1, a2, a3] (vR r :: st) mem := ke_aload_n rfl dX0_addPerson_54
theorem eX0_addPerson_55 : ev X m_X0_addPerson 55 [a0, a1, a2, a3] (vR r :: st) mem = evb X (fget mem r 0 6) m_X0_addPerson 58 [a0, a1, a2, a3] st mem := ke_getf rfl dX0_addPerson_55
theorem eX0_addPerson_58 : ev X m_X0_addPerson 58 [vR r, a1, a2, a3] st mem = ev X m_X0_addPerson 59 [vR r, a1, a2, a3] (vR r :: st) mem := ke_aload_n rfl dX0_addPerson_58
theorem eX0_addPerson_59 : ev X m_X0_addPerson 59 [a0, a1, a2, a3] (vR r :: st) mem = evb X (fget mem r 0 0) m_X0_addPerson 62 [a0, a1, a2, a3] st mem := ke_getf rfl dX0_addPerson_59
theorem eX0_addPerson_62 : ev X m_X0_addPerson 62 [a0, a1, a2, a3] st mem = ev X m_X0_addPerson 63 [a0, a1, a2, a3] (vI 0 :: st) mem := ke_iconst (by decide) dX0_addPerson_62
theorem eX0_addPerson_63 : ev X m_X0_addPerson 63 [a0, a1, a2, a3] (vI y :: vI x :: vR r :: st) mem = evm X (aput mem r x y) m_X0_addPerson 64 [a0, a1, a2, a3] st := ke_iastore dX0_addPerson_63
theorem eX0_addPerson_64 : ev X m_X0_addPerson 64 [vR r, a1, a2, a3] st mem = ev X m_X0_addPerson 65 [vR r, a1, a2, a3] (vR r :: st) mem := ke_aload_n rfl dX0_addPerson_64
theorem eX0_addPerson_65 : ev X m_X0_addPerson 65 [a0, a1, a2, a3] (vI x :: st) mem = ev X m_X0_addPerson 66 [a0, a1, a2, a3] (vI x :: vI x :: st) mem := ke_dupI dX0_addPerson_65
theorem eX0_addPerson_65r : ev X m_X0_addPerson 65 [a0, a1, a2, a3] (vR r :: st) mem = ev X m_X0_addPerson 66 [a0, a1, a2, a3] (vR r :: vR r :: st) mem := ke_dupR dX0_addPerson_65
theorem eX0_addPerson_66 : ev X m_X0_addPerson 66 [a0, a1, a2, a3] (vR r :: st) mem = evb X (fget mem r 0 0) m_X0_addPerson 69 [a0, a1, a2, a3] st mem := ke_getf rfl dX0_addPerson_66
theorem eX0_addPerson_69 : ev X m_X0_addPerson 69 [a0, a1, a2, a3] st mem = ev X m_X0_addPerson 70 [a0, a1, a2, a3] (vI 1 :: st) mem := ke_iconst (by decide) dX0_addPerson_69
theorem eX0_addPerson_70 : ev X m_X0_addPerson 70 [a0, a1, a2, a3] (vI y :: vI x :: st) mem = ev X m_X0_addPerson 71 [a0, a1, a2, a3] (vI (w32 (x + y)) :: st) mem := ke_iadd dX0_addPerson_70
theorem eX0_addPerson_71 : ev X m_X0_addPerson 71 [a0, a1, a2, a3] (vI x :: vR r :: st) mem = evm X (fput mem r 0 0 (vI x)) m_X0_addPerson 74 [a0, a1, a2, a3] st := ke_putf rfl (by decide +kernel) dX0_addPerson_71
theorem eX0_addPerson_74 : ev X m_X0_addPerson 74 [a0, a1, a2, a3] st mem = ev X m_X0_addPerson 75 [a0, a1, a2, a3] (vI 1 :: st) mem := ke_iconst (by decide) dX0_addPerson_74
theorem eX0_addPerson_75a : ev X m_X0_addPerson 75 [a0, a1, a2, a3] [vI 1] mem = some (some (vI 1), mem) := ke_zreturn dX0_addPerson_75 rfl rfl
theorem eX0_addPerson_75b : ev X m_X0_addPerson 75 [a0, a1, a2, a3] [vI 0] mem = some (some (vI 0), mem) := ke_zreturn dX0_addPerson_75 rfl rfl
theorem eX0_addPerson_75c {c : Prop} [Decidable c] : ev X m_X0_addPerson 75 [a0, a1, a2, a3] [vI (if c then 1 else 0)] mem = some (some (vI (if c then 1 else 0)), mem) := ke_zreturn dX0_addPerson_75 rfl (by split <;> rfl)
theorem eX0_setHate_0 : ev X m_X0_setHate 0 [vR r, a1, a2, a3] st mem = ev X m_X0_setHate 1 [vR r, a1, a2, a3] (vR r :: st) mem := ke_aload_n rfl dX0_setHate_0
theorem eX0_setHate_1 : ev X m_X0_setHate 1 [a0, vI x, a2, a3] st mem = ev X m_X0_setHate 2 [a0, vI x, a2, a3] (vI x :: st) mem := ke_iload_n rfl dX0_setHate_1
theorem eX0_setHate_2 : ev X m_X0_setHate 2 [a0, a1, vI x, a3] st mem = ev X m_X0_setHate 3 [a0, a1, vI x, a3] (vI x :: st) mem := ke_iload_n rfl dX0_setHate_2
theorem eX0_setHate_3 : ev X m_X0_setHate 3 [a0, a1, a2, a3] (vI n1 :: vI n0 :: vR r :: []) mem = evc X (gR mem r 0 (ev X m_X0_hasPair 0 [vR r, vI n0, vI n1] [] mem)) m_X0_setHate 6 [a0, a1, a2, a3] [] := ke_callV (m' := m_X0_hasPair) (as := [vI n0, vI n1]) (n := 2) (rest := []) dX0_setHate_3 rfl rfl rfl rfl rfl rfl (Nat.le_of_ble_eq_true rfl) (Nat.le_of_ble_eq_true rfl) (Nat.le_of_ble_eq_true rfl) rfl
theorem eX0_setHate_6 : ev X m_X0_setHate 6 [a0, a1, a2, a3] (vI x :: st) mem = if x = 0 then ev X m_X0_setHate 9 [a0, a1, a2, a3] st mem else ev X m_X0_setHate 11 [a0, a1, a2, a3] st mem := ke_if_ne dX0_setHate_6 rfl
theorem eX0_setHate_9 : ev X m_X0_setHate 9 [a0, a1, a2, a3] st mem = ev X m_X0_setHate 10 [a0, a1, a2, a3] (vI 0 :: st) mem := ke_iconst (by decide) dX0_setHate_9
theorem eX0_setHate_10a : ev X m_X0_setHate 10 [a0, a1, a2, a3] [vI 1] mem = some (some (vI 1), mem) := ke_zreturn dX0_setHate_10 rfl rfl
theorem eX0_setHate_10b : ev X m_X0_setHate 10 [a0, a1, a2, a3] [vI 0] mem = some (some (vI 0), mem) := ke_zreturn dX0_setHate_10 rfl rfl
theorem eX0_setHate_10c {c : Prop} [Decidable c] : ev X m_X0_setHate 10 [a0, a1, a2, a3] [vI (if c then 1 else 0)] mem = some (some (vI (if c then 1 else 0)), mem) := ke_zreturn dX0_setHate_10 rfl (by split <;> rfl)
theorem eX0_setHate_11 : ev X m_X0_setHate 11 [vR r, a1, a2, a3] st mem = ev X m_X0_setHate 12 [vR r, a1, a2, a3] (vR r :: st) mem := ke_aload_n rfl dX0_setHate_11
theorem eX0_setHate_12 : ev X m_X0_setHate 12 [a0, a1, a2, a3] (vR r :: st) mem = evb X (fget mem r 0 7) m_X0_setHate 15 [a0, a1, a2, a3] st mem := ke_getf rfl dX0_setHate_12
theorem eX0_setHate_15 : ev X m_X0_setHate 15 [a0, vI x, a2, a3] st mem = ev X m_X0_setHate 16 [a0, vI x, a2, a3] (vI x :: st) mem := ke_iload_n rfl dX0_setHate_15
theorem eX0_setHate_16 : ev X m_X0_setHate 16 [a0, a1, a2, a3] st mem = ev X m_X0_setHate 18 [a0, a1, a2, a3] (vI 6 :: st) mem := ke_bipush (by decide) dX0_setHate_16
theorem eX0_setHate_18 : ev X m_X0_setHate 18 [a0, a1, a2, a3] (vI y :: vI x :: st) mem = ev X m_X0_setHate 19 [a0, a1, a2, a3] (vI (w32 (x * y)) :: st) mem := ke_imul dX0_setHate_18
theorem eX0_setHate_19 : ev X m_X0_setHate 19 [a0, a1, vI x, a3] st mem = ev X m_X0_setHate 20 [a0, a1, vI x, a3] (vI x :: st) mem := ke_iload_n rfl dX0_setHate_19
theorem eX0_setHate_20 : ev X m_X0_setHate 20 [a0, a1, a2, a3] (vI y :: vI x :: st) mem = ev X m_X0_setHate 21 [a0, a1, a2, a3] (vI (w32 (x + y)) :: st) mem := ke_iadd dX0_setHate_20
theorem eX0_setHate_21 : ev X m_X0_setHate 21 [a0, a1, a2, vI x] st mem = ev X m_X0_setHate 22 [a0, a1, a2, vI x] (vI x :: st) mem := ke_iload_n rfl dX0_setHate_21
theorem eX0_setHate_22 : ev X m_X0_setHate 22 [a0, a1, a2, a3] (vI y :: vI x :: vR r :: st) mem = evm X (aput mem r x y) m_X0_setHate 23 [a0, a1, a2, a3] st := ke_iastore dX0_setHate_22
theorem eX0_setHate_23 : ev X m_X0_setHate 23 [a0, a1, a2, a3] st mem = ev X m_X0_setHate 24 [a0, a1, a2, a3] (vI 1 :: st) mem := ke_iconst (by decide) dX0_setHate_23
theorem eX0_setHate_24a : ev X m_X0_setHate 24 [a0, a1, a2, a3] [vI 1] mem = some (some (vI 1), mem) := ke_zreturn dX0_setHate_24 rfl rfl
theorem eX0_setHate_24b : ev X m_X0_setHate 24 [a0, a1, a2, a3] [vI 0] mem = some (some (vI 0), mem) := ke_zreturn dX0_setHate_24 rfl rfl
theorem eX0_setHate_24c {c : Prop} [Decidable c] : ev X m_X0_setHate 24 [a0, a1, a2, a3] [vI (if c then 1 else 0)] mem = some (some (vI (if c then 1 else 0)), mem) := ke_zreturn dX0_setHate_24 rfl (by split <;> rfl)
theorem eX0_addParcel_0 : ev X m_X0_addParcel 0 [vR r, a1, a2] st mem = ev X m_X0_addParcel 1 [vR r, a1, a2] (vR r :: st) mem := ke_aload_n rfl dX0_addParcel_0
theorem eX0_addParcel_1 : ev X m_X0_addParcel 1 [a0, a1, a2] (vR r :: st) mem = evb X (fget mem r 0 1) m_X0_addParcel 4 [a0, a1, a2] st mem := ke_getf rfl dX0_addParcel_1
theorem eX0_addParcel_4 : ev X m_X0_addParcel 4 [a0, a1, a2] (vI x :: st) mem = if x < 0 then ev X m_X0_addParcel 24 [a0, a1, a2] st mem else ev X m_X0_addParcel 7 [a0, a1, a2] st mem := ke_if_lt dX0_addParcel_4 rfl
theorem eX0_addParcel_7 : ev X m_X0_addParcel 7 [vR r, a1, a2] st mem = ev X m_X0_addParcel 8 [vR r, a1, a2] (vR r :: st) mem := ke_aload_n rfl dX0_addParcel_7
theorem eX0_addParcel_8 : ev X m_X0_addParcel 8 [a0, a1, a2] (vR r :: st) mem = evb X (fget mem r 0 1) m_X0_addParcel 11 [a0, a1, a2] st mem := ke_getf rfl dX0_addParcel_8
theorem eX0_addParcel_11 : ev X m_X0_addParcel 11 [a0, a1, a2] st mem = ev X m_X0_addParcel 13 [a0, a1, a2] (vI 8 :: st) mem := ke_bipush (by decide) dX0_addParcel_11
theorem eX0_addParcel_13 : ev X m_X0_addParcel 13 [a0, a1, a2] (vI y :: vI x :: st) mem = if x < y then ev X m_X0_addParcel 16 [a0, a1, a2] st mem else ev X m_X0_addParcel 24 [a0, a1, a2] st mem := ke_icmp_ge dX0_addParcel_13 rfl
theorem eX0_addParcel_16 : ev X m_X0_addParcel 16 [vR r, a1, a2] st mem = ev X m_X0_addParcel 17 [vR r, a1, a2] (vR r :: st) mem := ke_aload_n rfl dX0_addParcel_16
theorem eX0_addParcel_17 : ev X m_X0_addParcel 17 [a0, vI x, a2] st mem = ev X m_X0_addParcel 18 [a0, vI x, a2] (vI x :: st) mem := ke_iload_n rfl dX0_addParcel_17
theorem eX0_addParcel_18 : ev X m_X0_addParcel 18 [a0, a1, a2] (vI n0 :: vR r :: []) mem = evc X (gR mem r 0 (ev X m_X0_hasPerson 0 [vR r, vI n0] [] mem)) m_X0_addParcel 21 [a0, a1, a2] [] := ke_callV (m' := m_X0_hasPerson) (as := [vI n0]) (n := 1) (rest := []) dX0_addParcel_18 rfl rfl rfl rfl rfl rfl (Nat.le_of_ble_eq_true rfl) (Nat.le_of_ble_eq_true rfl) (Nat.le_of_ble_eq_true rfl) rfl
theorem eX0_addParcel_21 : ev X m_X0_addParcel 21 [a0, a1, a2] (vI x :: st) mem = if x = 0 then ev X m_X0_addParcel 24 [a0, a1, a2] st mem else ev X m_X0_addParcel 26 [a0, a1, a2] st mem := ke_if_ne dX0_addParcel_21 rfl
theorem eX0_addParcel_24 : ev X m_X0_addParcel 24 [a0, a1, a2] st mem = ev X m_X0_addParcel 25 [a0, a1, a2] (vI 0 :: st) mem := ke_iconst (by decide) dX0_addParcel_24
theorem eX0_addParcel_25a : ev X m_X0_addParcel 25 [a0, a1, a2] [vI 1] mem = some (some (vI 1), mem) := ke_zreturn dX0_addParcel_25 rfl rfl
theorem eX0_addParcel_25b : ev X m_X0_addParcel 25 [a0, a1, a2] [vI 0] mem = some (some (vI 0), mem) := ke_zreturn dX0_addParcel_25 rfl rfl
theorem eX0_addParcel_25c {c : Prop} [Decidable c] : ev X m_X0_addParcel 25 [a0, a1, a2] [vI (if c then 1 else 0)] mem = some (some (vI (if c then 1 else 0)), mem) := ke_zreturn dX0_addParcel_25 rfl (by split <;> rfl)
theorem eX0_addParcel_26 : ev X m_X0_addParcel 26 [vR r, a1, a2] st mem = ev X m_X0_addParcel 27 [vR r, a1, a2] (vR r :: st) mem := ke_aload_n rfl dX0_addParcel_26
theorem eX0_addParcel_27 : ev X m_X0_addParcel 27 [a0, a1, a2] (vR r :: st) mem = evb X (fget mem r 0 8) m_X0_addParcel 30 [a0, a1, a2] st mem := ke_getf rfl dX0_addParcel_27
theorem eX0_addParcel_30 : ev X m_X0_addParcel 30 [vR r, a1, a2] st mem = ev X m_X0_addParcel 31 [vR r, a1, a2] (vR r :: st) mem := ke_aload_n rfl dX0_addParcel_30
theorem eX0_addParcel_31 : ev X m_X0_addParcel 31 [a0, a1, a2] (vR r :: st) mem = evb X (fget mem r 0 1) m_X0_addParcel 34 [a0, a1, a2] st mem := ke_getf rfl dX0_addParcel_31
theorem eX0_addParcel_34 : ev X m_X0_addParcel 34 [a0, vI x, a2] st mem = ev X m_X0_addParcel 35 [a0, vI x, a2] (vI x :: st) mem := ke_iload_n rfl dX0_addParcel_34
theorem eX0_addParcel_35 : ev X m_X0_addParcel 35 [a0, a1, a2] (vI y :: vI x :: vR r :: st) mem = evm X (aput mem r x y) m_X0_addParcel 36 [a0, a1, a2] st := ke_iastore dX0_addParcel_35
theorem eX0_addParcel_36 : ev X m_X0_addParcel 36 [vR r, a1, a2] st mem = ev X m_X0_addParcel 37 [vR r, a1, a2] (vR r :: st) mem := ke_aload_n rfl dX0_addParcel_36
theorem eX0_addParcel_37 : ev X m_X0_addParcel 37 [a0, a1, a2] (vR r :: st) mem = evb X (fget mem r 0 9) m_X0_addParcel 40 [a0, a1, a2] st mem := ke_getf rfl dX0_addParcel_37
theorem eX0_addParcel_40 : ev X m_X0_addParcel 40 [vR r, a1, a2] st mem = ev X m_X0_addParcel 41 [vR r, a1, a2] (vR r :: st) mem := ke_aload_n rfl dX0_addParcel_40
theorem eX0_addParcel_41 : ev X m_X0_addParcel 41 [a0, a1, a2] (vR r :: st) mem = evb X (fget mem r 0 1) m_X0_addParcel 44 [a0, a1, a2] st mem := ke_getf rfl dX0_addParcel_41
theorem eX0_addParcel_44 : ev X m_X0_addParcel 44 [a0, a1, vI x] st mem = ev X m_X0_addParcel 45 [a0, a1, vI x] (vI x :: st) mem := ke_iload_n rfl dX0_addParcel_44
theorem eX0_addParcel_45 : ev X m_X0_addParcel 45 [a0, a1, a2] (vI y :: vI x :: vR r :: st) mem = evm X (aput mem r x y) m_X0_addParcel 46 [a0, a1, a2] st := ke_iastore dX0_addParcel_45
theorem eX0_addParcel_46 : ev X m_X0_addParcel 46 [vR r, a1, a2] st mem = ev X m_X0_addParcel 47 [vR r, a1, a2] (vR r :: st) mem := ke_aload_n rfl dX0_addParcel_46
theorem eX0_addParcel_47 : ev X m_X0_addParcel 47 [a0, a1, a2] (vR r :: st) mem = evb X (fget mem r 0 10) m_X0_addParcel 50 [a0, a1, a2] st mem := ke_getf rfl dX0_addParcel_47
theorem eX0_addParcel_50 : ev X m_X0_addParcel 50 [vR r, a1, a2] st mem = ev X m_X0_addParcel 51 [vR r, a1, a2] (vR r :: st) mem := ke_aload_n rfl dX0_addParcel_50
theorem eX0_addParcel_51 : ev X m_X0_addParcel 51 [a0, a1, a2] (vR r :: st) mem = evb X (fget mem r 0 1) m_X0_addParcel 54 [a0, a1, a2] st mem := ke_getf rfl dX0_addParcel_51
theorem eX0_addParcel_54 : ev X m_X0_addParcel 54 [a0, a1, a2] st mem = ev X m_X0_addParcel 55 [a0, a1, a2] (vI 0 :: st) mem := ke_iconst (by decide) dX0_addParcel_54
theorem eX0_addParcel_55 : ev X m_X0_addParcel 55 [a0, a1, a2] (vI y :: vI x :: vR r :: st) mem = evm X (aput mem r x y) m_X0_addParcel 56 [a0, a1, a2] st := ke_iastore dX0_addParcel_55
theorem eX0_addParcel_56 : ev X m_X0_addParcel 56 [vR r, a1, a2] st mem = ev X m_X0_addParcel 57 [vR r, a1, a2] (vR r :: st) mem := ke_aload_n rfl dX0_addParcel_56
theorem eX0_addParcel_57 : ev X m_X0_addParcel 57 [a0, a1, a2] (vR r :: st) mem = evb X (fget mem r 0 11) m_X0_addParcel 60 [a0, a1, a2] st mem := ke_getf rfl dX0_addParcel_57
theorem eX0_addParcel_60 : ev X m_X0_addParcel 60 [vR r, a1, a2] st mem = ev X m_X0_addParcel 61 [vR r, a1, a2] (vR r :: st) mem := ke_aload_n rfl dX0_addParcel_60
theorem eX0_addParcel_61 : ev X m_X0_addParcel 61 [a0, a1, a2] (vR r :: st) mem = evb X (fget mem r 0 1) m_X0_addParcel 64 [a0, a1, a2] st mem := ke_getf rfl dX0_addParcel_61
theorem eX0_addParcel_64 : ev X m_X0_addParcel 64 [a0, a1, a2] st mem = ev X m_X0_addParcel 66 [a0, a1, a2] (vI (-9) :: st) mem := ke_bipush (by decide) dX0_addParcel_64
theorem eX0_addParcel_66 : ev X m_X0_addParcel 66 [a0, a1, a2] (vI y :: vI x :: vR r :: st) mem = evm X (aput mem r x y) m_X0_addParcel 67 [a0, a1, a2] st := ke_iastore dX0_addParcel_66
theorem eX0_addParcel_67 : ev X m_X0_addParcel 67 [vR r, a1, a2] st mem = ev X m_X0_addParcel 68 [vR r, a1, a2] (vR r :: st) mem := ke_aload_n rfl dX0_addParcel_67
theorem eX0_addParcel_68 : ev X m_X0_addParcel 68 [a0, a1, a2] (vR r :: st) mem = evb X (fget mem r 0 12) m_X0_addParcel 71 [a0, a1, a2] st mem := ke_getf rfl dX0_addParcel_68
theorem eX0_addParcel_71 : ev X m_X0_addParcel 71 [vR r, a1, a2] st mem = ev X m_X0_addParcel 72 [vR r, a1, a2] (vR r :: st) mem := ke_aload_n rfl dX0_addParcel_71
theorem eX0_addParcel_72 : ev X m_X0_addParcel 72 [a0, a1, a2] (vR r :: st) mem = evb X (fget mem r 0 1) m_X0_addParcel 75 [a0, a1, a2] st mem := ke_getf rfl dX0_addParcel_72
theorem eX0_addParcel_75 : ev X m_X0_addParcel 75 [a0, a1, a2] st mem = ev X m_X0_addParcel 76 [a0, a1, a2] (vI 0 :: st) mem := ke_iconst (by decide) dX0_addParcel_75
theorem eX0_addParcel_76 : ev X m_X0_addParcel 76 [a0, a1, a2] (vI y :: vI x :: vR r :: st) mem = evm X (aput mem r x y) m_X0_addParcel 77 [a0, a1, a2] st := ke_iastore dX0_addParcel_76
theorem eX0_addParcel_77 : ev X m_X0_addParcel 77 [vR r, a1, a2] st mem = ev X m_X0_addParcel 78 [vR r, a1, a2] (vR r :: st) mem := ke_aload_n rfl dX0_addParcel_77
theorem eX0_addParcel_78 : ev X m_X0_addParcel 78 [a0, a1, a2] (vI x :: st) mem = ev X m_X0_addParcel 79 [a0, a1, a2] (vI x :: vI x :: st) mem := ke_dupI dX0_addParcel_78
theorem eX0_addParcel_78r : ev X m_X0_addParcel 78 [a0, a1, a2] (vR r :: st) mem = ev X m_X0_addParcel 79 [a0, a1, a2] (vR r :: vR r :: st) mem := ke_dupR dX0_addParcel_78
theorem eX0_addParcel_79 : ev X m_X0_addParcel 79 [a0, a1, a2] (vR r :: st) mem = evb X (fget mem r 0 1) m_X0_addParcel 82 [a0, a1, a2] st mem := ke_getf rfl dX0_addParcel_79
theorem eX0_addParcel_82 : ev X m_X0_addParcel 82 [a0, a1, a2] st mem = ev X m_X0_addParcel 83 [a0, a1, a2] (vI 1 :: st) mem := ke_iconst (by decide) dX0_addParcel_82
theorem eX0_addParcel_83 : ev X m_X0_addParcel 83 [a0, a1, a2] (vI y :: vI x :: st) mem = ev X m_X0_addParcel 84 [a0, a1, a2] (vI (w32 (x + y)) :: st) mem := ke_iadd dX0_addParcel_83
theorem eX0_addParcel_84 : ev X m_X0_addParcel 84 [a0, a1, a2] (vI x :: vR r :: st) mem = evm X (fput mem r 0 1 (vI x)) m_X0_addParcel 87 [a0, a1, a2] st := ke_putf rfl (by decide +kernel) dX0_addParcel_84
theorem eX0_addParcel_87 : ev X m_X0_addParcel 87 [a0, a1, a2] st mem = ev X m_X0_addParcel 88 [a0, a1, a2] (vI 1 :: st) mem := ke_iconst (by decide) dX0_addParcel_87
theorem eX0_addParcel_88a : ev X m_X0_addParcel 88 [a0, a1, a2] [vI 1] mem = some (some (vI 1), mem) := ke_zreturn dX0_addParcel_88 rfl rfl
theorem eX0_addParcel_88b : ev X m_X0_addParcel 88 [a0, a1, a2] [vI 0] mem = some (some (vI 0), mem) := ke_zreturn dX0_addParcel_88 rfl rfl
theorem eX0_addParcel_88c {c : Prop} [Decidable c] : ev X m_X0_addParcel 88 [a0, a1, a2] [vI (if c then 1 else 0)] mem = some (some (vI (if c then 1 else 0)), mem) := ke_zreturn dX0_addParcel_88 rfl (by split <;> rfl)
theorem eX0_makePeace_0 : ev X m_X0_makePeace 0 [vR r, a1, a2] st mem = ev X m_X0_makePeace 1 [vR r, a1, a2] (vR r :: st) mem := ke_aload_n rfl dX0_makePeace_0
theorem eX0_makePeace_1 : ev X m_X0_makePeace 1 [a0, vI x, a2] st mem = ev X m_X0_makePeace 2 [a0, vI x, a2] (vI x :: st) mem := ke_iload_n rfl dX0_makePeace_1
theorem eX0_makePeace_2 : ev X m_X0_makePeace 2 [a0, a1, vI x] st mem = ev X m_X0_makePeace 3 [a0, a1, vI x] (vI x :: st) mem := ke_iload_n rfl dX0_makePeace_2
theorem eX0_makePeace_3 : ev X m_X0_makePeace 3 [vR r, a1, a2] st mem = ev X m_X0_makePeace 4 [vR r, a1, a2] (vR r :: st) mem := ke_aload_n rfl dX0_makePeace_3
theorem eX0_makePeace_4 : ev X m_X0_makePeace 4 [a0, vI x, a2] st mem = ev X m_X0_makePeace 5 [a0, vI x, a2] (vI x :: st) mem := ke_iload_n rfl dX0_makePeace_4
theorem eX0_makePeace_5 : ev X m_X0_makePeace 5 [a0, a1, vI x] st mem = ev X m_X0_makePeace 6 [a0, a1, vI x] (vI x :: st) mem := ke_iload_n rfl dX0_makePeace_5
theorem eX0_makePeace_6 : ev X m_X0_makePeace 6 [a0, a1, a2] (vI n1 :: vI n0 :: vR r :: [s0, s1, s2]) mem = evc X (gR mem r 0 (ev X m_X0_hateOf 0 [vR r, vI n0, vI n1] [] mem)) m_X0_makePeace 9 [a0, a1, a2] [s0, s1, s2] := ke_callV (m' := m_X0_hateOf) (as := [vI n0, vI n1]) (n := 2) (rest := [s0, s1, s2]) dX0_makePeace_6 rfl rfl rfl rfl rfl rfl (Nat.le_of_ble_eq_true rfl) (Nat.le_of_ble_eq_true rfl) (Nat.le_of_ble_eq_true rfl) rfl
theorem eX0_makePeace_9 : ev X m_X0_makePeace 9 [a0, a1, a2] st mem = ev X m_X0_makePeace 10 [a0, a1, a2] (vI 2 :: st) mem := ke_iconst (by decide) dX0_makePeace_9
theorem eX0_makePeace_10 : ev X m_X0_makePeace 10 [a0, a1, a2] (vI y :: vI x :: st) mem = if y = 0 then none else ev X m_X0_makePeace 11 [a0, a1, a2] (vI (w32 (x.tdiv y)) :: st) mem := ke_idiv dX0_makePeace_10
theorem eX0_makePeace_11 : ev X m_X0_makePeace 11 [a0, a1, a2] (vI n2 :: vI n1 :: vI n0 :: vR r :: []) mem = evc X (gR mem r 0 (ev X m_X0_setHate 0 [vR r, vI n0, vI n1, vI n2] [] mem)) m_X0_makePeace 14 [a0, a1, a2] [] := ke_callV (m' := m_X0_setHate) (as := [vI n0, vI n1, vI n2]) (n := 3) (rest := []) dX0_makePeace_11 rfl rfl rfl rfl rfl rfl (Nat.le_of_ble_eq_true rfl) (Nat.le_of_ble_eq_true rfl) (Nat.le_of_ble_eq_true rfl) rfl
theorem eX0_makePeace_14 : ev X m_X0_makePeace 14 [a0, a1, a2] (vI x :: st) mem = ev X m_X0_makePeace 15 [a0, a1, a2] st mem := ke_popI dX0_makePeace_14
theorem eX0_makePeace_14r : ev X m_X0_makePeace 14 [a0, a1, a2] (vR r :: st) mem = ev X m_X0_makePeace 15 [a0, a1, a2] st mem := ke_popR dX0_makePeace_14
theorem eX0_makePeace_15 : ev X m_X0_makePeace 15 [vR r, a1, a2] st mem = ev X m_X0_makePeace 16 [vR r, a1, a2] (vR r :: st) mem := ke_aload_n rfl dX0_makePeace_15
theorem eX0_makePeace_16 : ev X m_X0_makePeace 16 [a0, a1, vI x] st mem = ev X m_X0_makePeace 17 [a0, a1, vI x] (vI x :: st) mem := ke_iload_n rfl dX0_makePeace_16
theorem eX0_makePeace_17 : ev X m_X0_makePeace 17 [a0, vI x, a2] st mem = ev X m_X0_makePeace 18 [a0, vI x, a2] (vI x :: st) mem := ke_iload_n rfl dX0_makePeace_17
theorem eX0_makePeace_18 : ev X m_X0_makePeace 18 [vR r, a1, a2] st mem = ev X m_X0_makePeace 19 [vR r, a1, a2] (vR r :: st) mem := ke_aload_n rfl dX0_makePeace_18
theorem eX0_makePeace_19 : ev X m_X0_makePeace 19 [a0, a1, vI x] st mem = ev X m_X0_makePeace 20 [a0, a1, vI x] (vI x :: st) mem := ke_iload_n rfl dX0_makePeace_19
theorem eX0_makePeace_20 : ev X m_X0_makePeace 20 [a0, vI x, a2] st mem = ev X m_X0_makePeace 21 [a0, vI x, a2] (vI x :: st) mem := ke_iload_n rfl dX0_makePeace_20
theorem eX0_makePeace_21 : ev X m_X0_makePeace 21 [a0, a1, a2] (vI n1 :: vI n0 :: vR r :: [s0, s1, s2]) mem = evc X (gR mem r 0 (ev X m_X0_hateOf 0 [vR r, vI n0, vI n1] [] mem)) m_X0_makePeace 24 [a0, a1, a2] [s0, s1, s2] := ke_callV (m' := m_X0_hateOf) (as := [vI n0, vI n1]) (n := 2) (rest := [s0, s1, s2]) dX0_makePeace_21 rfl rfl rfl rfl rfl rfl (Nat.le_of_ble_eq_true rfl) (Nat.le_of_ble_eq_true rfl) (Nat.le_of_ble_eq_true rfl) rfl
theorem eX0_makePeace_24 : ev X m_X0_makePeace 24 [a0, a1, a2] st mem = ev X m_X0_makePeace 25 [a0, a1, a2] (vI 2 :: st) mem := ke_iconst (by decide) dX0_makePeace_24
theorem eX0_makePeace_25 : ev X m_X0_makePeace 25 [a0, a1, a2] (vI y :: vI x :: st) mem = if y = 0 then none else ev X m_X0_makePeace 26 [a0, a1, a2] (vI (w32 (x.tdiv y)) :: st) mem := ke_idiv dX0_makePeace_25
theorem eX0_makePeace_26 : ev X m_X0_makePeace 26 [a0, a1, a2] (vI n2 :: vI n1 :: vI n0 :: vR r :: []) mem = evc X (gR mem r 0 (ev X m_X0_setHate 0 [vR r, vI n0, vI n1, vI n2] [] mem)) m_X0_makePeace 29 [a0, a1, a2] [] := ke_callV (m' := m_X0_setHate) (as := [vI n0, vI n1, vI n2]) (n := 3) (rest := []) dX0_makePeace_26 rfl rfl rfl rfl rfl rfl (Nat.le_of_ble_eq_true rfl) (Nat.le_of_ble_eq_true rfl) (Nat.le_of_ble_eq_true rfl) rfl
theorem eX0_makePeace_29a : ev X m_X0_makePeace 29 [a0, a1, a2] [vI 1] mem = some (some (vI 1), mem) := ke_zreturn dX0_makePeace_29 rfl rfl
theorem eX0_makePeace_29b : ev X m_X0_makePeace 29 [a0, a1, a2] [vI 0] mem = some (some (vI 0), mem) := ke_zreturn dX0_makePeace_29 rfl rfl
theorem eX0_makePeace_29c {c : Prop} [Decidable c] : ev X m_X0_makePeace 29 [a0, a1, a2] [vI (if c then 1 else 0)] mem = some (some (vI (if c then 1 else 0)), mem) := ke_zreturn dX0_makePeace_29 rfl (by split <;> rfl)
theorem eX0_hateOf_0 : ev X m_X0_hateOf 0 [vR r, a1, a2] st mem = ev X m_X0_hateOf 1 [vR r, a1, a2] (vR r :: st) mem := ke_aload_n rfl dX0_hateOf_0
theorem eX0_hateOf_1 : ev X m_X0_hateOf 1 [a0, vI x, a2] st mem = ev X m_X0_hateOf 2 [a0, vI x, a2] (vI x :: st) mem := ke_iload_n rfl dX0_hateOf_1
theorem eX0_hateOf_2 : ev X m_X0_hateOf 2 [a0, a1, vI x] st mem = ev X m_X0_hateOf 3 [a0, a1, vI x] (vI x :: st) mem := ke_iload_n rfl dX0_hateOf_2
theorem eX0_hateOf_3 : ev X m_X0_hateOf 3 [a0, a1, a2] (vI n1 :: vI n0 :: vR r :: []) mem = evc X (gR mem r 0 (ev X m_X0_hasPair 0 [vR r, vI n0, vI n1] [] mem)) m_X0_hateOf 6 [a0, a1, a2] [] := ke_callV (m' := m_X0_hasPair) (as := [vI n0, vI n1]) (n := 2) (rest := []) dX0_hateOf_3 rfl rfl rfl rfl rfl rfl (Nat.le_of_ble_eq_true rfl) (Nat.le_of_ble_eq_true rfl) (Nat.le_of_ble_eq_true rfl) rfl
theorem eX0_hateOf_6 : ev X m_X0_hateOf 6 [a0, a1, a2] (vI x :: st) mem = if x = 0 then ev X m_X0_hateOf 23 [a0, a1, a2] st mem else ev X m_X0_hateOf 9 [a0, a1, a2] st mem := ke_if_eq dX0_hateOf_6 rfl
theorem eX0_hateOf_9 : ev X m_X0_hateOf 9 [vR r, a1, a2] st mem = ev X m_X0_hateOf 10 [vR r, a1, a2] (vR r :: st) mem := ke_aload_n rfl dX0_hateOf_9
theorem eX0_hateOf_10 : ev X m_X0_hateOf 10 [a0, a1, a2] (vR r :: st) mem = evb X (fget mem r 0 7) m_X0_hateOf 13 [a0, a1, a2] st mem := ke_getf rfl dX0_hateOf_10
theorem eX0_hateOf_13 : ev X m_X0_hateOf 13 [a0, vI x, a2] st mem = ev X m_X0_hateOf 14 [a0, vI x, a2] (vI x :: st) mem := ke_iload_n rfl dX0_hateOf_13
theorem eX0_hateOf_14 : ev X m_X0_hateOf 14 [a0, a1, a2] st mem = ev X m_X0_hateOf 16 [a0, a1, a2] (vI 6 :: st) mem := ke_bipush (by decide) dX0_hateOf_14
theorem eX0_hateOf_16 : ev X m_X0_hateOf 16 [a0, a1, a2] (vI y :: vI x :: st) mem = ev X m_X0_hateOf 17 [a0, a1, a2] (vI (w32 (x * y)) :: st) mem := ke_imul dX0_hateOf_16
theorem eX0_hateOf_17 : ev X m_X0_hateOf 17 [a0, a1, vI x] st mem = ev X m_X0_hateOf 18 [a0, a1, vI x] (vI x :: st) mem := ke_iload_n rfl dX0_hateOf_17
theorem eX0_hateOf_18 : ev X m_X0_hateOf 18 [a0, a1, a2] (vI y :: vI x :: st) mem = ev X m_X0_hateOf 19 [a0, a1, a2] (vI (w32 (x + y)) :: st) mem := ke_iadd dX0_hateOf_18
theorem eX0_hateOf_19 : ev X m_X0_hateOf 19 [a0, a1, a2] (vI x :: vR r :: st) mem = evb X (aget mem r x) m_X0_hateOf 20 [a0, a1, a2] st mem := ke_iaload dX0_hateOf_19
theorem eX0_hateOf_20 : ev X m_X0_hateOf 20 [a0, a1, a2] st mem = ev X m_X0_hateOf 24 [a0, a1, a2] st mem := ke_goto dX0_hateOf_20 rfl
theorem eX0_hateOf_23 : ev X m_X0_hateOf 23 [a0, a1, a2] st mem = ev X m_X0_hateOf 24 [a0, a1, a2] (vI 0 :: st) mem := ke_iconst (by decide) dX0_hateOf_23
theorem eX0_hateOf_24 : ev X m_X0_hateOf 24 [a0, a1, a2] [vI x] mem = some (some (vI x), mem) := ke_ireturn dX0_hateOf_24 rfl
theorem eX2_letDaysPass_0 : ev X m_X2_letDaysPass 0 [vI x, a1] st mem = ev X m_X2_letDaysPass 1 [vI x, a1] (vI x :: st) mem := ke_iload_n rfl dX2_letDaysPass_0
theorem eX2_letDaysPass_1 : ev X m_X2_letDaysPass 1 [a0, a1] st mem = ev X m_X2_letDaysPass 2 [a0, a1] (vI 1 :: st) mem := ke_iconst (by decide) dX2_letDaysPass_1
theorem eX2_letDaysPass_2 : ev X m_X2_letDaysPass 2 [a0, a1] (vI y :: vI x :: st) mem = if x < y then ev X m_X2_letDaysPass 23 [a0, a1] st mem else ev X m_X2_letDaysPass 5 [a0, a1] st mem := ke_icmp_lt dX2_letDaysPass_2 rfl
theorem eX2_letDaysPass_5 : ev X m_X2_letDaysPass 5 [vI x, a1] st mem = ev X m_X2_letDaysPass 6 [vI x, a1] (vI x :: st) mem := ke_iload_n rfl dX2_letDaysPass_5
theorem eX2_letDaysPass_6 : ev X m_X2_letDaysPass 6 [a0, a1] st mem = ev X m_X2_letDaysPass 8 [a0, a1] (vI 60 :: st) mem := ke_bipush (by decide) dX2_letDaysPass_6
theorem eX2_letDaysPass_8 : ev X m_X2_letDaysPass 8 [a0, a1] (vI y :: vI x :: st) mem = if y < x then ev X m_X2_letDaysPass 23 [a0, a1] st mem else ev X m_X2_letDaysPass 11 [a0, a1] st mem := ke_icmp_gt dX2_letDaysPass_8 rfl
theorem eX2_letDaysPass_11 : ev X m_X2_letDaysPass 11 [a0, vR r] st mem = ev X m_X2_letDaysPass 12 [a0, vR r] (vR r :: st) mem := ke_aload_n rfl dX2_letDaysPass_11
theorem eX2_letDaysPass_11x : ev X m_X2_letDaysPass 11 [a0, vX r] st mem = ev X m_X2_letDaysPass 12 [a0, vX r] (vX r :: st) mem := ke_xload_n rfl dX2_letDaysPass_11
theorem eX2_letDaysPass_12 : ev X m_X2_letDaysPass 12 [a0, a1] (vR r :: st) mem = evb X (fget mem r 0 2) m_X2_letDaysPass 15 [a0, a1] st mem := ke_getf rfl dX2_letDaysPass_12
theorem eX2_letDaysPass_15 : ev X m_X2_letDaysPass 15 [vI x, a1] st mem = ev X m_X2_letDaysPass 16 [vI x, a1] (vI x :: st) mem := ke_iload_n rfl dX2_letDaysPass_15
theorem eX2_letDaysPass_16 : ev X m_X2_letDaysPass 16 [a0, a1] (vI y :: vI x :: st) mem = ev X m_X2_letDaysPass 17 [a0, a1] (vI (w32 (x + y)) :: st) mem := ke_iadd dX2_letDaysPass_16
theorem eX2_letDaysPass_17 : ev X m_X2_letDaysPass 17 [a0, a1] st mem = ev X m_X2_letDaysPass 20 [a0, a1] (vI 999 :: st) mem := ke_sipush (by decide) dX2_letDaysPass_17
theorem eX2_letDaysPass_20 : ev X m_X2_letDaysPass 20 [a0, a1] (vI y :: vI x :: st) mem = if y < x then ev X m_X2_letDaysPass 23 [a0, a1] st mem else ev X m_X2_letDaysPass 25 [a0, a1] st mem := ke_icmp_le dX2_letDaysPass_20 rfl
theorem eX2_letDaysPass_23 : ev X m_X2_letDaysPass 23 [a0, a1] st mem = ev X m_X2_letDaysPass 24 [a0, a1] (vI 0 :: st) mem := ke_iconst (by decide) dX2_letDaysPass_23
theorem eX2_letDaysPass_24a : ev X m_X2_letDaysPass 24 [a0, a1] [vI 1] mem = some (some (vI 1), mem) := ke_zreturn dX2_letDaysPass_24 rfl rfl
theorem eX2_letDaysPass_24b : ev X m_X2_letDaysPass 24 [a0, a1] [vI 0] mem = some (some (vI 0), mem) := ke_zreturn dX2_letDaysPass_24 rfl rfl
theorem eX2_letDaysPass_24c {c : Prop} [Decidable c] : ev X m_X2_letDaysPass 24 [a0, a1] [vI (if c then 1 else 0)] mem = some (some (vI (if c then 1 else 0)), mem) := ke_zreturn dX2_letDaysPass_24 rfl (by split <;> rfl)
theorem eX2_letDaysPass_25 : ev X m_X2_letDaysPass 25 [a0, vR r] st mem = ev X m_X2_letDaysPass 26 [a0, vR r] (vR r :: st) mem := ke_aload_n rfl dX2_letDaysPass_25
theorem eX2_letDaysPass_25x : ev X m_X2_letDaysPass 25 [a0, vX r] st mem = ev X m_X2_letDaysPass 26 [a0, vX r] (vX r :: st) mem := ke_xload_n rfl dX2_letDaysPass_25
theorem eX2_letDaysPass_26 : ev X m_X2_letDaysPass 26 [vI x, a1] st mem = ev X m_X2_letDaysPass 27 [vI x, a1] (vI x :: st) mem := ke_iload_n rfl dX2_letDaysPass_26
theorem eX2_letDaysPass_27 : ev X m_X2_letDaysPass 27 [a0, a1] (vI n0 :: vR r :: []) mem = evc X (gR mem r 0 (ev X m_X0_passDays 0 [vR r, vI n0, vS] [] mem)) m_X2_letDaysPass 30 [a0, a1] [] := ke_callV (m' := m_X0_passDays) (as := [vI n0]) (n := 1) (rest := []) dX2_letDaysPass_27 rfl rfl rfl rfl rfl rfl (Nat.le_of_ble_eq_true rfl) (Nat.le_of_ble_eq_true rfl) (Nat.le_of_ble_eq_true rfl) rfl
theorem eX2_letDaysPass_30 : ev X m_X2_letDaysPass 30 [a0, a1] st mem = ev X m_X2_letDaysPass 31 [a0, a1] (vI 1 :: st) mem := ke_iconst (by decide) dX2_letDaysPass_30
theorem eX2_letDaysPass_31a : ev X m_X2_letDaysPass 31 [a0, a1] [vI 1] mem = some (some (vI 1), mem) := ke_zreturn dX2_letDaysPass_31 rfl rfl
theorem eX2_letDaysPass_31b : ev X m_X2_letDaysPass 31 [a0, a1] [vI 0] mem = some (some (vI 0), mem) := ke_zreturn dX2_letDaysPass_31 rfl rfl
theorem eX2_letDaysPass_31c {c : Prop} [Decidable c] : ev X m_X2_letDaysPass 31 [a0, a1] [vI (if c then 1 else 0)] mem = some (some (vI (if c then 1 else 0)), mem) := ke_zreturn dX2_letDaysPass_31 rfl (by split <;> rfl)
theorem eX2_lengthAt_0 : ev X m_X2_lengthAt 0 [vR r, a1] st mem = ev X m_X2_lengthAt 1 [vR r, a1] (vR r :: st) mem := ke_aload_n rfl dX2_lengthAt_0
theorem eX2_lengthAt_0x : ev X m_X2_lengthAt 0 [vX r, a1] st mem = ev X m_X2_lengthAt 1 [vX r, a1] (vX r :: st) mem := ke_xload_n rfl dX2_lengthAt_0
theorem eX2_lengthAt_1 : ev X m_X2_lengthAt 1 [a0, vI x] st mem = ev X m_X2_lengthAt 2 [a0, vI x] (vI x :: st) mem := ke_iload_n rfl dX2_lengthAt_1
theorem eX2_lengthAt_2 : ev X m_X2_lengthAt 2 [a0, a1] (vI n0 :: vR r :: []) mem = evc X (gR mem r 2 (ev X m_X2_letterAt 0 [vR r, vI n0] [] mem)) m_X2_lengthAt 5 [a0, a1] [] := ke_callV (m' := m_X2_letterAt) (as := [vI n0]) (n := 1) (rest := []) dX2_lengthAt_2 rfl rfl rfl rfl rfl rfl (Nat.le_of_ble_eq_true rfl) (Nat.le_of_ble_eq_true rfl) (Nat.le_of_ble_eq_true rfl) rfl
theorem eX2_lengthAt_5 : ev X m_X2_lengthAt 5 [a0, a1] (vI n0 :: []) mem = evc X (ev X m_X2_formOf 0 [vI n0] [] mem) m_X2_lengthAt 8 [a0, a1] [] := ke_callS (m' := m_X2_formOf) (as := [vI n0]) (n := 1) (rest := []) dX2_lengthAt_5 rfl (by decide) rfl rfl rfl rfl rfl (Nat.le_of_ble_eq_true rfl) (Nat.le_of_ble_eq_true rfl) rfl
theorem eX2_lengthAt_8 : ev X m_X2_lengthAt 8 [a0, a1] (vX r :: []) mem = evc X (gX r (ev X m_J0_length_8abf5 0 [vX r] [] mem)) m_X2_lengthAt 11 [a0, a1] [] := ke_callX (m' := m_J0_length_8abf5) (as := []) (n := 0) (rest := []) dX2_lengthAt_8 rfl rfl rfl rfl rfl rfl (Nat.le_of_ble_eq_true rfl) (Nat.le_of_ble_eq_true rfl) rfl rfl
theorem eX2_lengthAt_11 : ev X m_X2_lengthAt 11 [a0, a1] [vI x] mem = some (some (vI x), mem) := ke_ireturn dX2_lengthAt_11 rfl
theorem eX4_person_0 : ev X m_X4_person 0 [vR r, a1, a2] st mem = ev X m_X4_person 1 [vR r, a1, a2] (vR r :: st) mem := ke_aload_n rfl dX4_person_0
theorem eX4_person_1 : ev X m_X4_person 1 [a0, a1, a2] (vR r :: st) mem = evb X (fget mem r 4 0) m_X4_person 4 [a0, a1, a2] st mem := ke_getf rfl dX4_person_1
theorem eX4_person_4 : ev X m_X4_person 4 [a0, vI x, a2] st mem = ev X m_X4_person 5 [a0, vI x, a2] (vI x :: st) mem := ke_iload_n rfl dX4_person_4
theorem eX4_person_5 : ev X m_X4_person 5 [a0, a1, a2] (vI n0 :: vR r :: []) mem = evc X (gR mem r 0 (ev X m_X0_hasPerson 0 [vR r, vI n0] [] mem)) m_X4_person 8 [a0, a1, a2] [] := ke_callV (m' := m_X0_hasPerson) (as := [vI n0]) (n := 1) (rest := []) dX4_person_5 rfl rfl rfl rfl rfl rfl (Nat.le_of_ble_eq_true rfl) (Nat.le_of_ble_eq_true rfl) (Nat.le_of_ble_eq_true rfl) rfl
theorem eX4_person_8 : ev X m_X4_person 8 [a0, a1, a2] (vI x :: st) mem = if x = 0 then ev X m_X4_person 11 [a0, a1, a2] st mem else ev X m_X4_person 17 [a0, a1, a2] st mem := ke_if_ne dX4_person_8 rfl
theorem eX4_person_11 : ev X m_X4_person 11 [vR r, a1, a2] st mem = ev X m_X4_person 12 [vR r, a1, a2] (vR r :: st) mem := ke_aload_n rfl dX4_person_11
theorem eX4_person_12 : ev X m_X4_person 12 [a0, a1, a2] st mem = ev X m_X4_person 13 [a0, a1, a2] (vI (-1) :: st) mem := ke_iconst (by decide) dX4_person_12
theorem eX4_person_13 : ev X m_X4_person 13 [a0, a1, a2] (vI n0 :: vR r :: []) mem = evc X (gR mem r 4 (ev X m_X4_refuse 0 [vR r, vI n0] [] mem)) m_X4_person 16 [a0, a1, a2] [] := ke_callV (m' := m_X4_refuse) (as := [vI n0]) (n := 1) (rest := []) dX4_person_13 rfl rfl rfl rfl rfl rfl (Nat.le_of_ble_eq_true rfl) (Nat.le_of_ble_eq_true rfl) (Nat.le_of_ble_eq_true rfl) rfl
theorem eX4_person_16 : ev X m_X4_person 16 [a0, a1, a2] [vI x] mem = some (some (vI x), mem) := ke_ireturn dX4_person_16 rfl
theorem eX4_person_17 : ev X m_X4_person 17 [a0, a1, vI x] st mem = ev X m_X4_person 18 [a0, a1, vI x] (vI x :: st) mem := ke_iload_n rfl dX4_person_17
theorem eX4_person_18 : ev X m_X4_person 18 [a0, a1, a2] (vI x :: st) mem = if x < 0 then ev X m_X4_person 26 [a0, a1, a2] st mem else ev X m_X4_person 21 [a0, a1, a2] st mem := ke_if_lt dX4_person_18 rfl
theorem eX4_person_21 : ev X m_X4_person 21 [a0, a1, vI x] st mem = ev X m_X4_person 22 [a0, a1, vI x] (vI x :: st) mem := ke_iload_n rfl dX4_person_21
theorem eX4_person_22 : ev X m_X4_person 22 [a0, a1, a2] st mem = ev X m_X4_person 23 [a0, a1, a2] (vI 5 :: st) mem := ke_iconst (by decide) dX4_person_22
theorem eX4_person_23 : ev X m_X4_person 23 [a0, a1, a2] (vI y :: vI x :: st) mem = if y < x then ev X m_X4_person 26 [a0, a1, a2] st mem else ev X m_X4_person 33 [a0, a1, a2] st mem := ke_icmp_le dX4_person_23 rfl
theorem eX4_person_26 : ev X m_X4_person 26 [vR r, a1, a2] st mem = ev X m_X4_person 27 [vR r, a1, a2] (vR r :: st) mem := ke_aload_n rfl dX4_person_26
theorem eX4_person_27 : ev X m_X4_person 27 [a0, a1, a2] st mem = ev X m_X4_person 29 [a0, a1, a2] (vI (-2) :: st) mem := ke_bipush (by decide) dX4_person_27
theorem eX4_person_29 : ev X m_X4_person 29 [a0, a1, a2] (vI n0 :: vR r :: []) mem = evc X (gR mem r 4 (ev X m_X4_refuse 0 [vR r, vI n0] [] mem)) m_X4_person 32 [a0, a1, a2] [] := ke_callV (m' := m_X4_refuse) (as := [vI n0]) (n := 1) (rest := []) dX4_person_29 rfl rfl rfl rfl rfl rfl (Nat.le_of_ble_eq_true rfl) (Nat.le_of_ble_eq_true rfl) (Nat.le_of_ble_eq_true rfl) rfl
theorem eX4_person_32 : ev X m_X4_person 32 [a0, a1, a2] [vI x] mem = some (some (vI x), mem) := ke_ireturn dX4_person_32 rfl
theorem eX4_person_33 : ev X m_X4_person 33 [vR r, a1, a2] st mem = ev X m_X4_person 34 [vR r, a1, a2] (vR r :: st) mem := ke_aload_n rfl dX4_person_33
theorem eX4_person_34 : ev X m_X4_person 34 [a0, a1, a2] (vR r :: st) mem = evb X (fget mem r 4 0) m_X4_person 37 [a0, a1, a2] st mem := ke_getf rfl dX4_person_34
theorem eX4_person_37 : ev X m_X4_person 37 [a0, vI x, a2] st mem = ev X m_X4_person 38 [a0, vI x, a2] (vI x :: st) mem := ke_iload_n rfl dX4_person_37
theorem eX4_person_38 : ev X m_X4_person 38 [a0, a1, vI x] st mem = ev X m_X4_person 39 [a0, a1, vI x] (vI x :: st) mem := ke_iload_n rfl dX4_person_38
theorem eX4_person_39 : ev X m_X4_person 39 [a0, a1, a2] (vI n1 :: vI n0 :: vR r :: []) mem = evc X (gR mem r 0 (ev X m_X0_ofPerson 0 [vR r, vI n0, vI n1] [] mem)) m_X4_person 42 [a0, a1, a2] [] := ke_callV (m' := m_X0_ofPerson) (as := [vI n0, vI n1]) (n := 2) (rest := []) dX4_person_39 rfl rfl rfl rfl rfl rfl (Nat.le_of_ble_eq_true rfl) (Nat.le_of_ble_eq_true rfl) (Nat.le_of_ble_eq_true rfl) rfl
theorem eX4_person_42 : ev X m_X4_person 42 [a0, a1, a2] [vI x] mem = some (some (vI x), mem) := ke_ireturn dX4_person_42 rfl
theorem eX0_ofPerson_0 : ev X m_X0_ofPerson 0 [vR r, a1, a2] st mem = ev X m_X0_ofPerson 1 [vR r, a1, a2] (vR r :: st) mem := ke_aload_n rfl dX0_ofPerson_0
theorem eX0_ofPerson_1 : ev X m_X0_ofPerson 1 [a0, vI x, a2] st mem = ev X m_X0_ofPerson 2 [a0, vI x, a2] (vI x :: st) mem := ke_iload_n rfl dX0_ofPerson_1
theorem eX0_ofPerson_2 : ev X m_X0_ofPerson 2 [a0, a1, a2] (vI n0 :: vR r :: []) mem = evc X (gR mem r 0 (ev X m_X0_hasPerson 0 [vR r, vI n0] [] mem)) m_X0_ofPerson 5 [a0, a1, a2] [] := ke_callV (m' := m_X0_hasPerson) (as := [vI n0]) (n := 1) (rest := []) dX0_ofPerson_2 rfl rfl rfl rfl rfl rfl (Nat.le_of_ble_eq_true rfl) (Nat.le_of_ble_eq_true rfl) (Nat.le_of_ble_eq_true rfl) rfl
theorem eX0_ofPerson_5 : ev X m_X0_ofPerson 5 [a0, a1, a2] (vI x :: st) mem = if x = 0 then ev X m_X0_ofPerson 8 [a0, a1, a2] st mem else ev X m_X0_ofPerson 11 [a0, a1, a2] st mem := ke_if_ne dX0_ofPerson_5 rfl
theorem eX0_ofPerson_8 : ev X m_X0_ofPerson 8 [a0, a1, a2] st mem = ev X m_X0_ofPerson 10 [a0, a1, a2] (vI (-9) :: st) mem := ke_bipush (by decide) dX0_ofPerson_8
theorem eX0_ofPerson_10 : ev X m_X0_ofPerson 10 [a0, a1, a2] [vI x] mem = some (some (vI x), mem) := ke_ireturn dX0_ofPerson_10 rfl
theorem eX0_ofPerson_11 : ev X m_X0_ofPerson 11 [a0, a1, vI x] st mem = ev X m_X0_ofPerson 12 [a0, a1, vI x] (vI x :: st) mem := ke_iload_n rfl dX0_ofPerson_11
theorem eX0_ofPerson_12 : ev X m_X0_ofPerson 12 [a0, a1, a2] (vI x :: st) mem = if x = 0 then ev X m_X0_ofPerson 48 [a0, a1, a2] st mem else if x = 1 then ev X m_X0_ofPerson 55 [a0, a1, a2] st mem else if x = 2 then ev X m_X0_ofPerson 62 [a0, a1, a2] st mem else if x = 3 then ev X m_X0_ofPerson 69 [a0, a1, a2] st mem else if x = 4 then ev X m_X0_ofPerson 76 [a0, a1, a2] st mem else ev X m_X0_ofPerson 86 [a0, a1, a2] st mem := by
  by_cases h0 : x = 0
  · subst h0; rw [if_pos rfl]; exact ke_swT dX0_ofPerson_12 (by decide) (by decide) (off := 36) rfl rfl
  rw [if_neg h0]
  by_cases h1 : x = 1
  · subst h1; rw [if_pos rfl]; exact ke_swT dX0_ofPerson_12 (by decide) (by decide) (off := 43) rfl rfl
  rw [if_neg h1]
  by_cases h2 : x = 2
  · subst h2; rw [if_pos rfl]; exact ke_swT dX0_ofPerson_12 (by decide) (by decide) (off := 50) rfl rfl
  rw [if_neg h2]
  by_cases h3 : x = 3
  · subst h3; rw [if_pos rfl]; exact ke_swT dX0_ofPerson_12 (by decide) (by decide) (off := 57) rfl rfl
  rw [if_neg h3]
  by_cases h4 : x = 4
  · subst h4; rw [if_pos rfl]; exact ke_swT dX0_ofPerson_12 (by decide) (by decide) (off := 64) rfl rfl
  rw [if_neg h4]
  exact ke_swD dX0_ofPerson_12 (by omega) rfl
theorem eX0_ofPerson_48 : ev X m_X0_ofPerson 48 [vR r, a1, a2] st mem = ev X m_X0_ofPerson 49 [vR r, a1, a2] (vR r :: st) mem := ke_aload_n rfl dX0_ofPerson_48
theorem eX0_ofPerson_49 : ev X m_X0_ofPerson 49 [a0, a1, a2] (vR r :: st) mem = evb X (fget mem r 0 3) m_X0_ofPerson 52 [a0, a1, a2] st mem := ke_getf rfl dX0_ofPerson_49
theorem eX0_ofPerson_52 : ev X m_X0_ofPerson 52 [a0, vI x, a2] st mem = ev X m_X0_ofPerson 53 [a0, vI x, a2] (vI x :: st) mem := ke_iload_n rfl dX0_ofPerson_52
theorem eX0_ofPerson_53 : ev X m_X0_ofPerson 53 [a0, a1, a2] (vI x :: vR r :: st) mem = evb X (aget mem r x) m_X0_ofPerson 54 [a0, a1, a2] st mem := ke_iaload dX0_ofPerson_53
theorem eX0_ofPerson_54 : ev X m_X0_ofPerson 54 [a0, a1, a2] [vI x] mem = some (some (vI x), mem) := ke_ireturn dX0_ofPerson_54 rfl
theorem eX0_ofPerson_55 : ev X m_X0_ofPerson 55 [vR r, a1, a2] st mem = ev X m_X0_ofPerson 56 [vR r, a1, a2] (vR r :: st) mem := ke_aload_n rfl dX0_ofPerson_55
theorem eX0_ofPerson_56 : ev X m_X0_ofPerson 56 [a0, a1, a2] (vR r :: st) mem = evb X (fget mem r 0 4) m_X0_ofPerson 59 [a0, a1, a2] st mem := ke_getf rfl dX0_ofPerson_56
theorem eX0_ofPerson_59 : ev X m_X0_ofPerson 59 [a0, vI x, a2] st mem = ev X m_X0_ofPerson 60 [a0, vI x, a2] (vI x :: st) mem := ke_iload_n rfl dX0_ofPerson_59
theorem eX0_ofPerson_60 : ev X m_X0_ofPerson 60 [a0, a1, a2] (vI x :: vR r :: st) mem = evb X (aget mem r x) m_X0_ofPerson 61 [a0, a1, a2] st mem := ke_iaload dX0_ofPerson_60
theorem eX0_ofPerson_61 : ev X m_X0_ofPerson 61 [a0, a1, a2] [vI x] mem = some (some (vI x), mem) := ke_ireturn dX0_ofPerson_61 rfl
theorem eX0_ofPerson_62 : ev X m_X0_ofPerson 62 [vR r, a1, a2] st mem = ev X m_X0_ofPerson 63 [vR r, a1, a2] (vR r :: st) mem := ke_aload_n rfl dX0_ofPerson_62
theorem eX0_ofPerson_63 : ev X m_X0_ofPerson 63 [a0, a1, a2] (vR r :: st) mem = evb X (fget mem r 0 5) m_X0_ofPerson 66 [a0, a1, a2] st mem := ke_getf rfl dX0_ofPerson_63
theorem eX0_ofPerson_66 : ev X m_X0_ofPerson 66 [a0, vI x, a2] st mem = ev X m_X0_ofPerson 67 [a0, vI x, a2] (vI x :: st) mem := ke_iload_n rfl dX0_ofPerson_66
theorem eX0_ofPerson_67 : ev X m_X0_ofPerson 67 [a0, a1, a2] (vI x :: vR r :: st) mem = evb X (aget mem r x) m_X0_ofPerson 68 [a0, a1, a2] st mem := ke_iaload dX0_ofPerson_67
theorem eX0_ofPerson_68 : ev X m_X0_ofPerson 68 [a0, a1, a2] [vI x] mem = some (some (vI x), mem) := ke_ireturn dX0_ofPerson_68 rfl
theorem eX0_ofPerson_69 : ev X m_X0_ofPerson 69 [vR r, a1, a2] st mem = ev X m_X0_ofPerson 70 [vR r, a1, a2] (vR r :: st) mem := ke_aload_n rfl dX0_ofPerson_69
theorem eX0_ofPerson_70 : ev X m_X0_ofPerson 70 [a0, a1, a2] (vR r :: st) mem = evb X (fget mem r 0 6) m_X0_ofPerson 73 [a0, a1, a2] st mem := ke_getf rfl dX0_ofPerson_70
theorem eX0_ofPerson_73 : ev X m_X0_ofPerson 73 [a0, vI x, a2] st mem = ev X m_X0_ofPerson 74 [a0, vI x, a2] (vI x :: st) mem := ke_iload_n rfl dX0_ofPerson_73
theorem eX0_ofPerson_74 : ev X m_X0_ofPerson 74 [a0, a1, a2] (vI x :: vR r :: st) mem = evb X (aget mem r x) m_X0_ofPerson 75 [a0, a1, a2] st mem := ke_iaload dX0_ofPerson_74
theorem eX0_ofPerson_75 : ev X m_X0_ofPerson 75 [a0, a1, a2] [vI x] mem = some (some (vI x), mem) := ke_ireturn dX0_ofPerson_75 rfl
theorem eX0_ofPerson_76 : ev X m_X0_ofPerson 76 [vR r, a1, a2] st mem = ev X m_X0_ofPerson 77 [vR r, a1, a2] (vR r :: st) mem := ke_aload_n rfl dX0_ofPerson_76
theorem eX0_ofPerson_77 : ev X m_X0_ofPerson 77 [a0, a1, a2] (vR r :: st) mem = evb X (fget mem r 0 3) m_X0_ofPerson 80 [a0, a1, a2] st mem := ke_getf rfl dX0_ofPerson_77
theorem eX0_ofPerson_80 : ev X m_X0_ofPerson 80 [a0, vI x, a2] st mem = ev X m_X0_ofPerson 81 [a0, vI x, a2] (vI x :: st) mem := ke_iload_n rfl dX0_ofPerson_80
theorem eX0_ofPerson_81 : ev X m_X0_ofPerson 81 [a0, a1, a2] (vI x :: vR r :: st) mem = evb X (aget mem r x) m_X0_ofPerson 82 [a0, a1, a2] st mem := ke_iaload dX0_ofPerson_81
theorem eX0_ofPerson_82 : ev X m_X0_ofPerson 82 [a0, a1, a2] (vI n0 :: []) mem = evc X (ev X m_X0_milesOf 0 [vI n0] [] mem) m_X0_ofPerson 85 [a0, a1, a2] [] := ke_callS (m' := m_X0_milesOf) (as := [vI n0]) (n := 1) (rest := []) dX0_ofPerson_82 rfl (by decide) rfl rfl rfl rfl rfl (Nat.le_of_ble_eq_true rfl) (Nat.le_of_ble_eq_true rfl) rfl
theorem eX0_ofPerson_85 : ev X m_X0_ofPerson 85 [a0, a1, a2] [vI x] mem = some (some (vI x), mem) := ke_ireturn dX0_ofPerson_85 rfl
theorem eX0_ofPerson_86 : ev X m_X0_ofPerson 86 [vR r, a1, a2] st mem = ev X m_X0_ofPerson 87 [vR r, a1, a2] (vR r :: st) mem := ke_aload_n rfl dX0_ofPerson_86
theorem eX0_ofPerson_87 : ev X m_X0_ofPerson 87 [a0, vI x, a2] st mem = ev X m_X0_ofPerson 88 [a0, vI x, a2] (vI x :: st) mem := ke_iload_n rfl dX0_ofPerson_87
theorem eX0_ofPerson_88 : ev X m_X0_ofPerson 88 [a0, a1, a2] (vI n0 :: vR r :: []) mem = evc X (gR mem r 0 (ev X m_X0_carries 0 [vR r, vI n0, vS] [] mem)) m_X0_ofPerson 91 [a0, a1, a2] [] := ke_callV (m' := m_X0_carries) (as := [vI n0]) (n := 1) (rest := []) dX0_ofPerson_88 rfl rfl rfl rfl rfl rfl (Nat.le_of_ble_eq_true rfl) (Nat.le_of_ble_eq_true rfl) (Nat.le_of_ble_eq_true rfl) rfl
theorem eX0_ofPerson_91 : ev X m_X0_ofPerson 91 [a0, a1, a2] (vI x :: st) mem = if x = 0 then ev X m_X0_ofPerson 98 [a0, a1, a2] st mem else ev X m_X0_ofPerson 94 [a0, a1, a2] st mem := ke_if_eq dX0_ofPerson_91 rfl
theorem eX0_ofPerson_94 : ev X m_X0_ofPerson 94 [a0, a1, a2] st mem = ev X m_X0_ofPerson 95 [a0, a1, a2] (vI 1 :: st) mem := ke_iconst (by decide) dX0_ofPerson_94
theorem eX0_ofPerson_95 : ev X m_X0_ofPerson 95 [a0, a1, a2] st mem = ev X m_X0_ofPerson 99 [a0, a1, a2] st mem := ke_goto dX0_ofPerson_95 rfl
theorem eX0_ofPerson_98 : ev X m_X0_ofPerson 98 [a0, a1, a2] st mem = ev X m_X0_ofPerson 99 [a0, a1, a2] (vI 0 :: st) mem := ke_iconst (by decide) dX0_ofPerson_98
theorem eX0_ofPerson_99 : ev X m_X0_ofPerson 99 [a0, a1, a2] [vI x] mem = some (some (vI x), mem) := ke_ireturn dX0_ofPerson_99 rfl
theorem eX4_parcel_0 : ev X m_X4_parcel 0 [vR r, a1, a2] st mem = ev X m_X4_parcel 1 [vR r, a1, a2] (vR r :: st) mem := ke_aload_n rfl dX4_parcel_0
theorem eX4_parcel_1 : ev X m_X4_parcel 1 [a0, a1, a2] (vR r :: st) mem = evb X (fget mem r 4 0) m_X4_parcel 4 [a0, a1, a2] st mem := ke_getf rfl dX4_parcel_1
theorem eX4_parcel_4 : ev X m_X4_parcel 4 [a0, vI x, a2] st mem = ev X m_X4_parcel 5 [a0, vI x, a2] (vI x :: st) mem := ke_iload_n rfl dX4_parcel_4
theorem eX4_parcel_5 : ev X m_X4_parcel 5 [a0, a1, a2] (vI n0 :: vR r :: []) mem = evc X (gR mem r 0 (ev X m_X0_hasParcel 0 [vR r, vI n0] [] mem)) m_X4_parcel 8 [a0, a1, a2] [] := ke_callV (m' := m_X0_hasParcel) (as := [vI n0]) (n := 1) (rest := []) dX4_parcel_5 rfl rfl rfl rfl rfl rfl (Nat.le_of_ble_eq_true rfl) (Nat.le_of_ble_eq_true rfl) (Nat.le_of_ble_eq_true rfl) rfl
theorem eX4_parcel_8 : ev X m_X4_parcel 8 [a0, a1, a2] (vI x :: st) mem = if x = 0 then ev X m_X4_parcel 11 [a0, a1, a2] st mem else ev X m_X4_parcel 17 [a0, a1, a2] st mem := ke_if_ne dX4_parcel_8 rfl
theorem eX4_parcel_11 : ev X m_X4_parcel 11 [vR r, a1, a2] st mem = ev X m_X4_parcel 12 [vR r, a1, a2] (vR r :: st) mem := ke_aload_n rfl dX4_parcel_11
theorem eX4_parcel_12 : ev X m_X4_parcel 12 [a0, a1, a2] st mem = ev X m_X4_parcel 13 [a0, a1, a2] (vI (-1) :: st) mem := ke_iconst (by decide) dX4_parcel_12
theorem eX4_parcel_13 : ev X m_X4_parcel 13 [a0, a1, a2] (vI n0 :: vR r :: []) mem = evc X (gR mem r 4 (ev X m_X4_refuse 0 [vR r, vI n0] [] mem)) m_X4_parcel 16 [a0, a1, a2] [] := ke_callV (m' := m_X4_refuse) (as := [vI n0]) (n := 1) (rest := []) dX4_parcel_13 rfl rfl rfl rfl rfl rfl (Nat.le_of_ble_eq_true rfl) (Nat.le_of_ble_eq_true rfl) (Nat.le_of_ble_eq_true rfl) rfl
theorem eX4_parcel_16 : ev X m_X4_parcel 16 [a0, a1, a2] [vI x] mem = some (some (vI x), mem) := ke_ireturn dX4_parcel_16 rfl
theorem eX4_parcel_17 : ev X m_X4_parcel 17 [a0, a1, vI x] st mem = ev X m_X4_parcel 18 [a0, a1, vI x] (vI x :: st) mem := ke_iload_n rfl dX4_parcel_17
theorem eX4_parcel_18 : ev X m_X4_parcel 18 [a0, a1, a2] (vI x :: st) mem = if x < 0 then ev X m_X4_parcel 26 [a0, a1, a2] st mem else ev X m_X4_parcel 21 [a0, a1, a2] st mem := ke_if_lt dX4_parcel_18 rfl
theorem eX4_parcel_21 : ev X m_X4_parcel 21 [a0, a1, vI x] st mem = ev X m_X4_parcel 22 [a0, a1, vI x] (vI x :: st) mem := ke_iload_n rfl dX4_parcel_21
theorem eX4_parcel_22 : ev X m_X4_parcel 22 [a0, a1, a2] st mem = ev X m_X4_parcel 23 [a0, a1, a2] (vI 4 :: st) mem := ke_iconst (by decide) dX4_parcel_22
theorem eX4_parcel_23 : ev X m_X4_parcel 23 [a0, a1, a2] (vI y :: vI x :: st) mem = if y < x then ev X m_X4_parcel 26 [a0, a1, a2] st mem else ev X m_X4_parcel 33 [a0, a1, a2] st mem := ke_icmp_le dX4_parcel_23 rfl
theorem eX4_parcel_26 : ev X m_X4_parcel 26 [vR r, a1, a2] st mem = ev X m_X4_parcel 27 [vR r, a1, a2] (vR r :: st) mem := ke_aload_n rfl dX4_parcel_26
theorem eX4_parcel_27 : ev X m_X4_parcel 27 [a0, a1, a2] st mem = ev X m_X4_parcel 29 [a0, a1, a2] (vI (-2) :: st) mem := ke_bipush (by decide) dX4_parcel_27
theorem eX4_parcel_29 : ev X m_X4_parcel 29 [a0, a1, a2] (vI n0 :: vR r :: []) mem = evc X (gR mem r 4 (ev X m_X4_refuse 0 [vR r, vI n0] [] mem)) m_X4_parcel 32 [a0, a1, a2] [] := ke_callV (m' := m_X4_refuse) (as := [vI n0]) (n := 1) (rest := []) dX4_parcel_29 rfl rfl rfl rfl rfl rfl (Nat.le_of_ble_eq_true rfl) (Nat.le_of_ble_eq_true rfl) (Nat.le_of_ble_eq_true rfl) rfl
theorem eX4_parcel_32 : ev X m_X4_parcel 32 [a0, a1, a2] [vI x] mem = some (some (vI x), mem) := ke_ireturn dX4_parcel_32 rfl
theorem eX4_parcel_33 : ev X m_X4_parcel 33 [vR r, a1, a2] st mem = ev X m_X4_parcel 34 [vR r, a1, a2] (vR r :: st) mem := ke_aload_n rfl dX4_parcel_33
theorem eX4_parcel_34 : ev X m_X4_parcel 34 [a0, a1, a2] (vR r :: st) mem = evb X (fget mem r 4 0) m_X4_parcel 37 [a0, a1, a2] st mem := ke_getf rfl dX4_parcel_34
theorem eX4_parcel_37 : ev X m_X4_parcel 37 [a0, vI x, a2] st mem = ev X m_X4_parcel 38 [a0, vI x, a2] (vI x :: st) mem := ke_iload_n rfl dX4_parcel_37
theorem eX4_parcel_38 : ev X m_X4_parcel 38 [a0, a1, vI x] st mem = ev X m_X4_parcel 39 [a0, a1, vI x] (vI x :: st) mem := ke_iload_n rfl dX4_parcel_38
theorem eX4_parcel_39 : ev X m_X4_parcel 39 [a0, a1, a2] (vI n1 :: vI n0 :: vR r :: []) mem = evc X (gR mem r 0 (ev X m_X0_ofParcel 0 [vR r, vI n0, vI n1] [] mem)) m_X4_parcel 42 [a0, a1, a2] [] := ke_callV (m' := m_X0_ofParcel) (as := [vI n0, vI n1]) (n := 2) (rest := []) dX4_parcel_39 rfl rfl rfl rfl rfl rfl (Nat.le_of_ble_eq_true rfl) (Nat.le_of_ble_eq_true rfl) (Nat.le_of_ble_eq_true rfl) rfl
theorem eX4_parcel_42 : ev X m_X4_parcel 42 [a0, a1, a2] [vI x] mem = some (some (vI x), mem) := ke_ireturn dX4_parcel_42 rfl
theorem eX0_hasParcel_0 : ev X m_X0_hasParcel 0 [a0, vI x] st mem = ev X m_X0_hasParcel 1 [a0, vI x] (vI x :: st) mem := ke_iload_n rfl dX0_hasParcel_0
theorem eX0_hasParcel_1 : ev X m_X0_hasParcel 1 [a0, a1] (vI x :: st) mem = if x < 0 then ev X m_X0_hasParcel 16 [a0, a1] st mem else ev X m_X0_hasParcel 4 [a0, a1] st mem := ke_if_lt dX0_hasParcel_1 rfl
theorem eX0_hasParcel_4 : ev X m_X0_hasParcel 4 [a0, vI x] st mem = ev X m_X0_hasParcel 5 [a0, vI x] (vI x :: st) mem := ke_iload_n rfl dX0_hasParcel_4
theorem eX0_hasParcel_5 : ev X m_X0_hasParcel 5 [vR r, a1] st mem = ev X m_X0_hasParcel 6 [vR r, a1] (vR r :: st) mem := ke_aload_n rfl dX0_hasParcel_5
theorem eX0_hasParcel_6 : ev X m_X0_hasParcel 6 [a0, a1] (vR r :: st) mem = evb X (fget mem r 0 1) m_X0_hasParcel 9 [a0, a1] st mem := ke_getf rfl dX0_hasParcel_6
theorem eX0_hasParcel_9 : ev X m_X0_hasParcel 9 [a0, a1] (vI y :: vI x :: st) mem = if x < y then ev X m_X0_hasParcel 12 [a0, a1] st mem else ev X m_X0_hasParcel 16 [a0, a1] st mem := ke_icmp_ge dX0_hasParcel_9 rfl
theorem eX0_hasParcel_12 : ev X m_X0_hasParcel 12 [a0, a1] st mem = ev X m_X0_hasParcel 13 [a0, a1] (vI 1 :: st) mem := ke_iconst (by decide) dX0_hasParcel_12
theorem eX0_hasParcel_13 : ev X m_X0_hasParcel 13 [a0, a1] st mem = ev X m_X0_hasParcel 17 [a0, a1] st mem := ke_goto dX0_hasParcel_13 rfl
theorem eX0_hasParcel_16 : ev X m_X0_hasParcel 16 [a0, a1] st mem = ev X m_X0_hasParcel 17 [a0, a1] (vI 0 :: st) mem := ke_iconst (by decide) dX0_hasParcel_16
theorem eX0_hasParcel_17a : ev X m_X0_hasParcel 17 [a0, a1] [vI 1] mem = some (some (vI 1), mem) := ke_zreturn dX0_hasParcel_17 rfl rfl
theorem eX0_hasParcel_17b : ev X m_X0_hasParcel 17 [a0, a1] [vI 0] mem = some (some (vI 0), mem) := ke_zreturn dX0_hasParcel_17 rfl rfl
theorem eX0_hasParcel_17c {c : Prop} [Decidable c] : ev X m_X0_hasParcel 17 [a0, a1] [vI (if c then 1 else 0)] mem = some (some (vI (if c then 1 else 0)), mem) := ke_zreturn dX0_hasParcel_17 rfl (by split <;> rfl)
theorem eX0_ofParcel_0 : ev X m_X0_ofParcel 0 [vR r, a1, a2] st mem = ev X m_X0_ofParcel 1 [vR r, a1, a2] (vR r :: st) mem := ke_aload_n rfl dX0_ofParcel_0
theorem eX0_ofParcel_1 : ev X m_X0_ofParcel 1 [a0, vI x, a2] st mem = ev X m_X0_ofParcel 2 [a0, vI x, a2] (vI x :: st) mem := ke_iload_n rfl dX0_ofParcel_1
theorem eX0_ofParcel_2 : ev X m_X0_ofParcel 2 [a0, a1, a2] (vI n0 :: vR r :: []) mem = evc X (gR mem r 0 (ev X m_X0_hasParcel 0 [vR r, vI n0] [] mem)) m_X0_ofParcel 5 [a0, a1, a2] [] := ke_callV (m' := m_X0_hasParcel) (as := [vI n0]) (n := 1) (rest := []) dX0_ofParcel_2 rfl rfl rfl rfl rfl rfl (Nat.le_of_ble_eq_true rfl) (Nat.le_of_ble_eq_true rfl) (Nat.le_of_ble_eq_true rfl) rfl
theorem eX0_ofParcel_5 : ev X m_X0_ofParcel 5 [a0, a1, a2] (vI x :: st) mem = if x = 0 then ev X m_X0_ofParcel 8 [a0, a1, a2] st mem else ev X m_X0_ofParcel 11 [a0, a1, a2] st mem := ke_if_ne dX0_ofParcel_5 rfl
theorem eX0_ofParcel_8 : ev X m_X0_ofParcel 8 [a0, a1, a2] st mem = ev X m_X0_ofParcel 10 [a0, a1, a2] (vI (-9) :: st) mem := ke_bipush (by decide) dX0_ofParcel_8
theorem eX0_ofParcel_10 : ev X m_X0_ofParcel 10 [a0, a1, a2] [vI x] mem = some (some (vI x), mem) := ke_ireturn dX0_ofParcel_10 rfl
theorem eX0_ofParcel_11 : ev X m_X0_ofParcel 11 [a0, a1, vI x] st mem = ev X m_X0_ofParcel 12 [a0, a1, vI x] (vI x :: st) mem := ke_iload_n rfl dX0_ofParcel_11
theorem eX0_ofParcel_12 : ev X m_X0_ofParcel 12 [a0, a1, a2] (vI x :: st) mem = if x = 0 then ev X m_X0_ofParcel 44 [a0, a1, a2] st mem else if x = 1 then ev X m_X0_ofParcel 51 [a0, a1, a2] st mem else if x = 2 then ev X m_X0_ofParcel 58 [a0, a1, a2] st mem else if x = 3 then ev X m_X0_ofParcel 65 [a0, a1, a2] st mem else ev X m_X0_ofParcel 72 [a0, a1, a2] st mem := by
  by_cases h0 : x = 0
  · subst h0; rw [if_pos rfl]; exact ke_swT dX0_ofParcel_12 (by decide) (by decide) (off := 32) rfl rfl
  rw [if_neg h0]
  by_cases h1 : x = 1
  · subst h1; rw [if_pos rfl]; exact ke_swT dX0_ofParcel_12 (by decide) (by decide) (off := 39) rfl rfl
  rw [if_neg h1]
  by_cases h2 : x = 2
  · subst h2; rw [if_pos rfl]; exact ke_swT dX0_ofParcel_12 (by decide) (by decide) (off := 46) rfl rfl
  rw [if_neg h2]
  by_cases h3 : x = 3
  · subst h3; rw [if_pos rfl]; exact ke_swT dX0_ofParcel_12 (by decide) (by decide) (off := 53) rfl rfl
  rw [if_neg h3]
  exact ke_swD dX0_ofParcel_12 (by omega) rfl
theorem eX0_ofParcel_44 : ev X m_X0_ofParcel 44 [vR r, a1, a2] st mem = ev X m_X0_ofParcel 45 [vR r, a1, a2] (vR r :: st) mem := ke_aload_n rfl dX0_ofParcel_44
theorem eX0_ofParcel_45 : ev X m_X0_ofParcel 45 [a0, a1, a2] (vR r :: st) mem = evb X (fget mem r 0 8) m_X0_ofParcel 48 [a0, a1, a2] st mem := ke_getf rfl dX0_ofParcel_45
theorem eX0_ofParcel_48 : ev X m_X0_ofParcel 48 [a0, vI x, a2] st mem = ev X m_X0_ofParcel 49 [a0, vI x, a2] (vI x :: st) mem := ke_iload_n rfl dX0_ofParcel_48
theorem eX0_ofParcel_49 : ev X m_X0_ofParcel 49 [a0, a1, a2] (vI x :: vR r :: st) mem = evb X (aget mem r x) m_X0_ofParcel 50 [a0, a1, a2] st mem := ke_iaload dX0_ofParcel_49
theorem eX0_ofParcel_50 : ev X m_X0_ofParcel 50 [a0, a1, a2] [vI x] mem = some (some (vI x), mem) := ke_ireturn dX0_ofParcel_50 rfl
theorem eX0_ofParcel_51 : ev X m_X0_ofParcel 51 [vR r, a1, a2] st mem = ev X m_X0_ofParcel 52 [vR r, a1, a2] (vR r :: st) mem := ke_aload_n rfl dX0_ofParcel_51
theorem eX0_ofParcel_52 : ev X m_X0_ofParcel 52 [a0, a1, a2] (vR r :: st) mem = evb X (fget mem r 0 9) m_X0_ofParcel 55 [a0, a1, a2] st mem := ke_getf rfl dX0_ofParcel_52
theorem eX0_ofParcel_55 : ev X m_X0_ofParcel 55 [a0, vI x, a2] st mem = ev X m_X0_ofParcel 56 [a0, vI x, a2] (vI x :: st) mem := ke_iload_n rfl dX0_ofParcel_55
theorem eX0_ofParcel_56 : ev X m_X0_ofParcel 56 [a0, a1, a2] (vI x :: vR r :: st) mem = evb X (aget mem r x) m_X0_ofParcel 57 [a0, a1, a2] st mem := ke_iaload dX0_ofParcel_56
theorem eX0_ofParcel_57 : ev X m_X0_ofParcel 57 [a0, a1, a2] [vI x] mem = some (some (vI x), mem) := ke_ireturn dX0_ofParcel_57 rfl
theorem eX0_ofParcel_58 : ev X m_X0_ofParcel 58 [vR r, a1, a2] st mem = ev X m_X0_ofParcel 59 [vR r, a1, a2] (vR r :: st) mem := ke_aload_n rfl dX0_ofParcel_58
theorem eX0_ofParcel_59 : ev X m_X0_ofParcel 59 [a0, a1, a2] (vR r :: st) mem = evb X (fget mem r 0 10) m_X0_ofParcel 62 [a0, a1, a2] st mem := ke_getf rfl dX0_ofParcel_59
theorem eX0_ofParcel_62 : ev X m_X0_ofParcel 62 [a0, vI x, a2] st mem = ev X m_X0_ofParcel 63 [a0, vI x, a2] (vI x :: st) mem := ke_iload_n rfl dX0_ofParcel_62
theorem eX0_ofParcel_63 : ev X m_X0_ofParcel 63 [a0, a1, a2] (vI x :: vR r :: st) mem = evb X (aget mem r x) m_X0_ofParcel 64 [a0, a1, a2] st mem := ke_iaload dX0_ofParcel_63
theorem eX0_ofParcel_64 : ev X m_X0_ofParcel 64 [a0, a1, a2] [vI x] mem = some (some (vI x), mem) := ke_ireturn dX0_ofParcel_64 rfl
theorem eX0_ofParcel_65 : ev X m_X0_ofParcel 65 [vR r, a1, a2] st mem = ev X m_X0_ofParcel 66 [vR r, a1, a2] (vR r :: st) mem := ke_aload_n rfl dX0_ofParcel_65
theorem eX0_ofParcel_66 : ev X m_X0_ofParcel 66 [a0, a1, a2] (vR r :: st) mem = evb X (fget mem r 0 12) m_X0_ofParcel 69 [a0, a1, a2] st mem := ke_getf rfl dX0_ofParcel_66
theorem eX0_ofParcel_69 : ev X m_X0_ofParcel 69 [a0, vI x, a2] st mem = ev X m_X0_ofParcel 70 [a0, vI x, a2] (vI x :: st) mem := ke_iload_n rfl dX0_ofParcel_69
theorem eX0_ofParcel_70 : ev X m_X0_ofParcel 70 [a0, a1, a2] (vI x :: vR r :: st) mem = evb X (aget mem r x) m_X0_ofParcel 71 [a0, a1, a2] st mem := ke_iaload dX0_ofParcel_70
theorem eX0_ofParcel_71 : ev X m_X0_ofParcel 71 [a0, a1, a2] [vI x] mem = some (some (vI x), mem) := ke_ireturn dX0_ofParcel_71 rfl
theorem eX0_ofParcel_72 : ev X m_X0_ofParcel 72 [vR r, a1, a2] st mem = ev X m_X0_ofParcel 73 [vR r, a1, a2] (vR r :: st) mem := ke_aload_n rfl dX0_ofParcel_72
theorem eX0_ofParcel_73 : ev X m_X0_ofParcel 73 [a0, a1, a2] (vR r :: st) mem = evb X (fget mem r 0 11) m_X0_ofParcel 76 [a0, a1, a2] st mem := ke_getf rfl dX0_ofParcel_73
theorem eX0_ofParcel_76 : ev X m_X0_ofParcel 76 [a0, vI x, a2] st mem = ev X m_X0_ofParcel 77 [a0, vI x, a2] (vI x :: st) mem := ke_iload_n rfl dX0_ofParcel_76
theorem eX0_ofParcel_77 : ev X m_X0_ofParcel 77 [a0, a1, a2] (vI x :: vR r :: st) mem = evb X (aget mem r x) m_X0_ofParcel 78 [a0, a1, a2] st mem := ke_iaload dX0_ofParcel_77
theorem eX0_ofParcel_78 : ev X m_X0_ofParcel 78 [a0, a1, a2] [vI x] mem = some (some (vI x), mem) := ke_ireturn dX0_ofParcel_78 rfl
theorem eX4_hate_0 : ev X m_X4_hate 0 [vR r, a1, a2] st mem = ev X m_X4_hate 1 [vR r, a1, a2] (vR r :: st) mem := ke_aload_n rfl dX4_hate_0
theorem eX4_hate_1 : ev X m_X4_hate 1 [a0, a1, a2] (vR r :: st) mem = evb X (fget mem r 4 0) m_X4_hate 4 [a0, a1, a2] st mem := ke_getf rfl dX4_hate_1
theorem eX4_hate_4 : ev X m_X4_hate 4 [a0, vI x, a2] st mem = ev X m_X4_hate 5 [a0, vI x, a2] (vI x :: st) mem := ke_iload_n rfl dX4_hate_4
theorem eX4_hate_5 : ev X m_X4_hate 5 [a0, a1, vI x] st mem = ev X m_X4_hate 6 [a0, a1, vI x] (vI x :: st) mem := ke_iload_n rfl dX4_hate_5
theorem eX4_hate_6 : ev X m_X4_hate 6 [a0, a1, a2] (vI n1 :: vI n0 :: vR r :: []) mem = evc X (gR mem r 0 (ev X m_X0_hasPair 0 [vR r, vI n0, vI n1] [] mem)) m_X4_hate 9 [a0, a1, a2] [] := ke_callV (m' := m_X0_hasPair) (as := [vI n0, vI n1]) (n := 2) (rest := []) dX4_hate_6 rfl rfl rfl rfl rfl rfl (Nat.le_of_ble_eq_true rfl) (Nat.le_of_ble_eq_true rfl) (Nat.le_of_ble_eq_true rfl) rfl
theorem eX4_hate_9 : ev X m_X4_hate 9 [a0, a1, a2] (vI x :: st) mem = if x = 0 then ev X m_X4_hate 12 [a0, a1, a2] st mem else ev X m_X4_hate 18 [a0, a1, a2] st mem := ke_if_ne dX4_hate_9 rfl
theorem eX4_hate_12 : ev X m_X4_hate 12 [vR r, a1, a2] st mem = ev X m_X4_hate 13 [vR r, a1, a2] (vR r :: st) mem := ke_aload_n rfl dX4_hate_12
theorem eX4_hate_13 : ev X m_X4_hate 13 [a0, a1, a2] st mem = ev X m_X4_hate 14 [a0, a1, a2] (vI (-1) :: st) mem := ke_iconst (by decide) dX4_hate_13
theorem eX4_hate_14 : ev X m_X4_hate 14 [a0, a1, a2] (vI n0 :: vR r :: []) mem = evc X (gR mem r 4 (ev X m_X4_refuse 0 [vR r, vI n0] [] mem)) m_X4_hate 17 [a0, a1, a2] [] := ke_callV (m' := m_X4_refuse) (as := [vI n0]) (n := 1) (rest := []) dX4_hate_14 rfl rfl rfl rfl rfl rfl (Nat.le_of_ble_eq_true rfl) (Nat.le_of_ble_eq_true rfl) (Nat.le_of_ble_eq_true rfl) rfl
theorem eX4_hate_17 : ev X m_X4_hate 17 [a0, a1, a2] [vI x] mem = some (some (vI x), mem) := ke_ireturn dX4_hate_17 rfl
theorem eX4_hate_18 : ev X m_X4_hate 18 [vR r, a1, a2] st mem = ev X m_X4_hate 19 [vR r, a1, a2] (vR r :: st) mem := ke_aload_n rfl dX4_hate_18
theorem eX4_hate_19 : ev X m_X4_hate 19 [a0, a1, a2] (vR r :: st) mem = evb X (fget mem r 4 0) m_X4_hate 22 [a0, a1, a2] st mem := ke_getf rfl dX4_hate_19
theorem eX4_hate_22 : ev X m_X4_hate 22 [a0, vI x, a2] st mem = ev X m_X4_hate 23 [a0, vI x, a2] (vI x :: st) mem := ke_iload_n rfl dX4_hate_22
theorem eX4_hate_23 : ev X m_X4_hate 23 [a0, a1, vI x] st mem = ev X m_X4_hate 24 [a0, a1, vI x] (vI x :: st) mem := ke_iload_n rfl dX4_hate_23
theorem eX4_hate_24 : ev X m_X4_hate 24 [a0, a1, a2] (vI n1 :: vI n0 :: vR r :: []) mem = evc X (gR mem r 0 (ev X m_X0_hateOf 0 [vR r, vI n0, vI n1] [] mem)) m_X4_hate 27 [a0, a1, a2] [] := ke_callV (m' := m_X0_hateOf) (as := [vI n0, vI n1]) (n := 2) (rest := []) dX4_hate_24 rfl rfl rfl rfl rfl rfl (Nat.le_of_ble_eq_true rfl) (Nat.le_of_ble_eq_true rfl) (Nat.le_of_ble_eq_true rfl) rfl
theorem eX4_hate_27 : ev X m_X4_hate 27 [a0, a1, a2] [vI x] mem = some (some (vI x), mem) := ke_ireturn dX4_hate_27 rfl
theorem eX4_posts_0 : ev X m_X4_posts 0 [vR r, a1, a2] st mem = ev X m_X4_posts 1 [vR r, a1, a2] (vR r :: st) mem := ke_aload_n rfl dX4_posts_0
theorem eX4_posts_1 : ev X m_X4_posts 1 [a0, a1, a2] (vR r :: st) mem = evb X (fget mem r 4 0) m_X4_posts 4 [a0, a1, a2] st mem := ke_getf rfl dX4_posts_1
theorem eX4_posts_4 : ev X m_X4_posts 4 [a0, vI x, a2] st mem = ev X m_X4_posts 5 [a0, vI x, a2] (vI x :: st) mem := ke_iload_n rfl dX4_posts_4
theorem eX4_posts_5 : ev X m_X4_posts 5 [a0, a1, a2] (vI n0 :: vR r :: []) mem = evc X (gR mem r 0 (ev X m_X0_hasPerson 0 [vR r, vI n0] [] mem)) m_X4_posts 8 [a0, a1, a2] [] := ke_callV (m' := m_X0_hasPerson) (as := [vI n0]) (n := 1) (rest := []) dX4_posts_5 rfl rfl rfl rfl rfl rfl (Nat.le_of_ble_eq_true rfl) (Nat.le_of_ble_eq_true rfl) (Nat.le_of_ble_eq_true rfl) rfl
theorem eX4_posts_8 : ev X m_X4_posts 8 [a0, a1, a2] (vI x :: st) mem = if x = 0 then ev X m_X4_posts 11 [a0, a1, a2] st mem else ev X m_X4_posts 17 [a0, a1, a2] st mem := ke_if_ne dX4_posts_8 rfl
theorem eX4_posts_11 : ev X m_X4_posts 11 [vR r, a1, a2] st mem = ev X m_X4_posts 12 [vR r, a1, a2] (vR r :: st) mem := ke_aload_n rfl dX4_posts_11
theorem eX4_posts_12 : ev X m_X4_posts 12 [a0, a1, a2] st mem = ev X m_X4_posts 13 [a0, a1, a2] (vI (-1) :: st) mem := ke_iconst (by decide) dX4_posts_12
theorem eX4_posts_13 : ev X m_X4_posts 13 [a0, a1, a2] (vI n0 :: vR r :: []) mem = evc X (gR mem r 4 (ev X m_X4_refuse 0 [vR r, vI n0] [] mem)) m_X4_posts 16 [a0, a1, a2] [] := ke_callV (m' := m_X4_refuse) (as := [vI n0]) (n := 1) (rest := []) dX4_posts_13 rfl rfl rfl rfl rfl rfl (Nat.le_of_ble_eq_true rfl) (Nat.le_of_ble_eq_true rfl) (Nat.le_of_ble_eq_true rfl) rfl
theorem eX4_posts_16 : ev X m_X4_posts 16 [a0, a1, a2] [vI x] mem = some (some (vI x), mem) := ke_ireturn dX4_posts_16 rfl
theorem eX4_posts_17 : ev X m_X4_posts 17 [a0, a1, vI x] st mem = ev X m_X4_posts 18 [a0, a1, vI x] (vI x :: st) mem := ke_iload_n rfl dX4_posts_17
theorem eX4_posts_18 : ev X m_X4_posts 18 [a0, a1, a2] (vI x :: st) mem = if x < 0 then ev X m_X4_posts 21 [a0, a1, a2] st mem else ev X m_X4_posts 28 [a0, a1, a2] st mem := ke_if_ge dX4_posts_18 rfl
theorem eX4_posts_21 : ev X m_X4_posts 21 [vR r, a1, a2] st mem = ev X m_X4_posts 22 [vR r, a1, a2] (vR r :: st) mem := ke_aload_n rfl dX4_posts_21
theorem eX4_posts_22 : ev X m_X4_posts 22 [a0, a1, a2] st mem = ev X m_X4_posts 24 [a0, a1, a2] (vI (-4) :: st) mem := ke_bipush (by decide) dX4_posts_22
theorem eX4_posts_24 : ev X m_X4_posts 24 [a0, a1, a2] (vI n0 :: vR r :: []) mem = evc X (gR mem r 4 (ev X m_X4_refuse 0 [vR r, vI n0] [] mem)) m_X4_posts 27 [a0, a1, a2] [] := ke_callV (m' := m_X4_refuse) (as := [vI n0]) (n := 1) (rest := []) dX4_posts_24 rfl rfl rfl rfl rfl rfl (Nat.le_of_ble_eq_true rfl) (Nat.le_of_ble_eq_true rfl) (Nat.le_of_ble_eq_true rfl) rfl
theorem eX4_posts_27 : ev X m_X4_posts 27 [a0, a1, a2] [vI x] mem = some (some (vI x), mem) := ke_ireturn dX4_posts_27 rfl
theorem eX4_posts_28 : ev X m_X4_posts 28 [a0, a1, vI x] st mem = ev X m_X4_posts 29 [a0, a1, vI x] (vI x :: st) mem := ke_iload_n rfl dX4_posts_28
theorem eX4_posts_29 : ev X m_X4_posts 29 [a0, a1, a2] st mem = ev X m_X4_posts 31 [a0, a1, a2] (vI 9 :: st) mem := ke_bipush (by decide) dX4_posts_29
theorem eX4_posts_31 : ev X m_X4_posts 31 [a0, a1, a2] (vI y :: vI x :: st) mem = if y < x then ev X m_X4_posts 46 [a0, a1, a2] st mem else ev X m_X4_posts 34 [a0, a1, a2] st mem := ke_icmp_gt dX4_posts_31 rfl
theorem eX4_posts_34 : ev X m_X4_posts 34 [vR r, a1, a2] st mem = ev X m_X4_posts 35 [vR r, a1, a2] (vR r :: st) mem := ke_aload_n rfl dX4_posts_34
theorem eX4_posts_35 : ev X m_X4_posts 35 [a0, a1, a2] (vR r :: st) mem = evb X (fget mem r 4 0) m_X4_posts 38 [a0, a1, a2] st mem := ke_getf rfl dX4_posts_35
theorem eX4_posts_38 : ev X m_X4_posts 38 [a0, a1, a2] (vR r :: st) mem = evb X (fget mem r 0 1) m_X4_posts 41 [a0, a1, a2] st mem := ke_getf rfl dX4_posts_38
theorem eX4_posts_41 : ev X m_X4_posts 41 [a0, a1, a2] st mem = ev X m_X4_posts 43 [a0, a1, a2] (vI 8 :: st) mem := ke_bipush (by decide) dX4_posts_41
theorem eX4_posts_43 : ev X m_X4_posts 43 [a0, a1, a2] (vI y :: vI x :: st) mem = if x < y then ev X m_X4_posts 53 [a0, a1, a2] st mem else ev X m_X4_posts 46 [a0, a1, a2] st mem := ke_icmp_lt dX4_posts_43 rfl
theorem eX4_posts_46 : ev X m_X4_posts 46 [vR r, a1, a2] st mem = ev X m_X4_posts 47 [vR r, a1, a2] (vR r :: st) mem := ke_aload_n rfl dX4_posts_46
theorem eX4_posts_47 : ev X m_X4_posts 47 [a0, a1, a2] st mem = ev X m_X4_posts 49 [a0, a1, a2] (vI (-6) :: st) mem := ke_bipush (by decide) dX4_posts_47
theorem eX4_posts_49 : ev X m_X4_posts 49 [a0, a1, a2] (vI n0 :: vR r :: []) mem = evc X (gR mem r 4 (ev X m_X4_refuse 0 [vR r, vI n0] [] mem)) m_X4_posts 52 [a0, a1, a2] [] := ke_callV (m' := m_X4_refuse) (as := [vI n0]) (n := 1) (rest := []) dX4_posts_49 rfl rfl rfl rfl rfl rfl (Nat.le_of_ble_eq_true rfl) (Nat.le_of_ble_eq_true rfl) (Nat.le_of_ble_eq_true rfl) rfl
theorem eX4_posts_52 : ev X m_X4_posts 52 [a0, a1, a2] [vI x] mem = some (some (vI x), mem) := ke_ireturn dX4_posts_52 rfl
theorem eX4_posts_53 : ev X m_X4_posts 53 [vR r, a1, a2] st mem = ev X m_X4_posts 54 [vR r, a1, a2] (vR r :: st) mem := ke_aload_n rfl dX4_posts_53
theorem eX4_posts_54 : ev X m_X4_posts 54 [a0, a1, a2] (vR r :: st) mem = evb X (fget mem r 4 0) m_X4_posts 57 [a0, a1, a2] st mem := ke_getf rfl dX4_posts_54
theorem eX4_posts_57 : ev X m_X4_posts 57 [a0, vI x, a2] st mem = ev X m_X4_posts 58 [a0, vI x, a2] (vI x :: st) mem := ke_iload_n rfl dX4_posts_57
theorem eX4_posts_58 : ev X m_X4_posts 58 [a0, a1, vI x] st mem = ev X m_X4_posts 59 [a0, a1, vI x] (vI x :: st) mem := ke_iload_n rfl dX4_posts_58
theorem eX4_posts_59 : ev X m_X4_posts 59 [a0, a1, a2] (vI n1 :: vI n0 :: vR r :: []) mem = evc X (gR mem r 0 (ev X m_X0_addParcel 0 [vR r, vI n0, vI n1] [] mem)) m_X4_posts 62 [a0, a1, a2] [] := ke_callV (m' := m_X0_addParcel) (as := [vI n0, vI n1]) (n := 2) (rest := []) dX4_posts_59 rfl rfl rfl rfl rfl rfl (Nat.le_of_ble_eq_true rfl) (Nat.le_of_ble_eq_true rfl) (Nat.le_of_ble_eq_true rfl) rfl
theorem eX4_posts_62 : ev X m_X4_posts 62 [a0, a1, a2] (vI x :: st) mem = ev X m_X4_posts 63 [a0, a1, a2] st mem := ke_popI dX4_posts_62
theorem eX4_posts_62r : ev X m_X4_posts 62 [a0, a1, a2] (vR r :: st) mem = ev X m_X4_posts 63 [a0, a1, a2] st mem := ke_popR dX4_posts_62
theorem eX4_posts_63 : ev X m_X4_posts 63 [vR r, a1, a2] st mem = ev X m_X4_posts 64 [vR r, a1, a2] (vR r :: st) mem := ke_aload_n rfl dX4_posts_63
theorem eX4_posts_64 : ev X m_X4_posts 64 [a0, a1, a2] (vR r :: st) mem = evb X (fget mem r 4 0) m_X4_posts 67 [a0, a1, a2] st mem := ke_getf rfl dX4_posts_64
theorem eX4_posts_67 : ev X m_X4_posts 67 [a0, a1, a2] (vR r :: st) mem = evb X (fget mem r 0 1) m_X4_posts 70 [a0, a1, a2] st mem := ke_getf rfl dX4_posts_67
theorem eX4_posts_70 : ev X m_X4_posts 70 [a0, a1, a2] st mem = ev X m_X4_posts 71 [a0, a1, a2] (vI 1 :: st) mem := ke_iconst (by decide) dX4_posts_70
theorem eX4_posts_71 : ev X m_X4_posts 71 [a0, a1, a2] (vI y :: vI x :: st) mem = ev X m_X4_posts 72 [a0, a1, a2] (vI (w32 (x - y)) :: st) mem := ke_isub dX4_posts_71
theorem eX4_posts_72 : ev X m_X4_posts 72 [a0, a1, a2] [vI x] mem = some (some (vI x), mem) := ke_ireturn dX4_posts_72 rfl
theorem eX4_hates_0 : ev X m_X4_hates 0 [vR r, a1, a2, a3, a4] st mem = ev X m_X4_hates 1 [vR r, a1, a2, a3, a4] (vR r :: st) mem := ke_aload_n rfl dX4_hates_0
theorem eX4_hates_1 : ev X m_X4_hates 1 [a0, a1, a2, a3, a4] (vR r :: st) mem = evb X (fget mem r 4 0) m_X4_hates 4 [a0, a1, a2, a3, a4] st mem := ke_getf rfl dX4_hates_1
theorem eX4_hates_4 : ev X m_X4_hates 4 [a0, vI x, a2, a3, a4] st mem = ev X m_X4_hates 5 [a0, vI x, a2, a3, a4] (vI x :: st) mem := ke_iload_n rfl dX4_hates_4
theorem eX4_hates_5 : ev X m_X4_hates 5 [a0, a1, vI x, a3, a4] st mem = ev X m_X4_hates 6 [a0, a1, vI x, a3, a4] (vI x :: st) mem := ke_iload_n rfl dX4_hates_5
theorem eX4_hates_6 : ev X m_X4_hates 6 [a0, a1, a2, a3, a4] (vI n1 :: vI n0 :: vR r :: []) mem = evc X (gR mem r 0 (ev X m_X0_hasPair 0 [vR r, vI n0, vI n1] [] mem)) m_X4_hates 9 [a0, a1, a2, a3, a4] [] := ke_callV (m' := m_X0_hasPair) (as := [vI n0, vI n1]) (n := 2) (rest := []) dX4_hates_6 rfl rfl rfl rfl rfl rfl (Nat.le_of_ble_eq_true rfl) (Nat.le_of_ble_eq_true rfl) (Nat.le_of_ble_eq_true rfl) rfl
theorem eX4_hates_9 : ev X m_X4_hates 9 [a0, a1, a2, a3, a4] (vI x :: st) mem = if x = 0 then ev X m_X4_hates 12 [a0, a1, a2, a3, a4] st mem else ev X m_X4_hates 18 [a0, a1, a2, a3, a4] st mem := ke_if_ne dX4_hates_9 rfl
theorem eX4_hates_12 : ev X m_X4_hates 12 [vR r, a1, a2, a3, a4] st mem = ev X m_X4_hates 13 [vR r, a1, a2, a3, a4] (vR r :: st) mem := ke_aload_n rfl dX4_hates_12
theorem eX4_hates_13 : ev X m_X4_hates 13 [a0, a1, a2, a3, a4] st mem = ev X m_X4_hates 14 [a0, a1, a2, a3, a4] (vI (-1) :: st) mem := ke_iconst (by decide) dX4_hates_13
theorem eX4_hates_14 : ev X m_X4_hates 14 [a0, a1, a2, a3, a4] (vI n0 :: vR r :: []) mem = evc X (gR mem r 4 (ev X m_X4_refuse 0 [vR r, vI n0] [] mem)) m_X4_hates 17 [a0, a1, a2, a3, a4] [] := ke_callV (m' := m_X4_refuse) (as := [vI n0]) (n := 1) (rest := []) dX4_hates_14 rfl rfl rfl rfl rfl rfl (Nat.le_of_ble_eq_true rfl) (Nat.le_of_ble_eq_true rfl) (Nat.le_of_ble_eq_true rfl) rfl
theorem eX4_hates_17 : ev X m_X4_hates 17 [a0, a1, a2, a3, a4] [vI x] mem = some (some (vI x), mem) := ke_ireturn dX4_hates_17 rfl
theorem eX4_hates_18 : ev X m_X4_hates 18 [a0, a1, a2, vI x, a4] st mem = ev X m_X4_hates 19 [a0, a1, a2, vI x, a4] (vI x :: st) mem := ke_iload_n rfl dX4_hates_18
theorem eX4_hates_19 : ev X m_X4_hates 19 [a0, a1, a2, a3, a4] (vI x :: st) mem = if x < 0 then ev X m_X4_hates 22 [a0, a1, a2, a3, a4] st mem else ev X m_X4_hates 29 [a0, a1, a2, a3, a4] st mem := ke_if_ge dX4_hates_19 rfl
theorem eX4_hates_22 : ev X m_X4_hates 22 [vR r, a1, a2, a3, a4] st mem = ev X m_X4_hates 23 [vR r, a1, a2, a3, a4] (vR r :: st) mem := ke_aload_n rfl dX4_hates_22
theorem eX4_hates_23 : ev X m_X4_hates 23 [a0, a1, a2, a3, a4] st mem = ev X m_X4_hates 25 [a0, a1, a2, a3, a4] (vI (-4) :: st) mem := ke_bipush (by decide) dX4_hates_23
theorem eX4_hates_25 : ev X m_X4_hates 25 [a0, a1, a2, a3, a4] (vI n0 :: vR r :: []) mem = evc X (gR mem r 4 (ev X m_X4_refuse 0 [vR r, vI n0] [] mem)) m_X4_hates 28 [a0, a1, a2, a3, a4] [] := ke_callV (m' := m_X4_refuse) (as := [vI n0]) (n := 1) (rest := []) dX4_hates_25 rfl rfl rfl rfl rfl rfl (Nat.le_of_ble_eq_true rfl) (Nat.le_of_ble_eq_true rfl) (Nat.le_of_ble_eq_true rfl) rfl
theorem eX4_hates_28 : ev X m_X4_hates 28 [a0, a1, a2, a3, a4] [vI x] mem = some (some (vI x), mem) := ke_ireturn dX4_hates_28 rfl
theorem eX4_hates_29 : ev X m_X4_hates 29 [a0, a1, a2, vI x, a4] st mem = ev X m_X4_hates 30 [a0, a1, a2, vI x, a4] (vI x :: st) mem := ke_iload_n rfl dX4_hates_29
theorem eX4_hates_30 : ev X m_X4_hates 30 [a0, a1, a2, a3, a4] st mem = ev X m_X4_hates 32 [a0, a1, a2, a3, a4] (vI 99 :: st) mem := ke_bipush (by decide) dX4_hates_30
theorem eX4_hates_32 : ev X m_X4_hates 32 [a0, a1, a2, a3, a4] (vI y :: vI x :: st) mem = if y < x then ev X m_X4_hates 35 [a0, a1, a2, a3, a4] st mem else ev X m_X4_hates 42 [a0, a1, a2, a3, a4] st mem := ke_icmp_le dX4_hates_32 rfl
theorem eX4_hates_35 : ev X m_X4_hates 35 [vR r, a1, a2, a3, a4] st mem = ev X m_X4_hates 36 [vR r, a1, a2, a3, a4] (vR r :: st) mem := ke_aload_n rfl dX4_hates_35
theorem eX4_hates_36 : ev X m_X4_hates 36 [a0, a1, a2, a3, a4] st mem = ev X m_X4_hates 38 [a0, a1, a2, a3, a4] (vI (-6) :: st) mem := ke_bipush (by decide) dX4_hates_36
theorem eX4_hates_38 : ev X m_X4_hates 38 [a0, a1, a2, a3, a4] (vI n0 :: vR r :: []) mem = evc X (gR mem r 4 (ev X m_X4_refuse 0 [vR r, vI n0] [] mem)) m_X4_hates 41 [a0, a1, a2, a3, a4] [] := ke_callV (m' := m_X4_refuse) (as := [vI n0]) (n := 1) (rest := []) dX4_hates_38 rfl rfl rfl rfl rfl rfl (Nat.le_of_ble_eq_true rfl) (Nat.le_of_ble_eq_true rfl) (Nat.le_of_ble_eq_true rfl) rfl
theorem eX4_hates_41 : ev X m_X4_hates 41 [a0, a1, a2, a3, a4] [vI x] mem = some (some (vI x), mem) := ke_ireturn dX4_hates_41 rfl
theorem eX4_hates_42 : ev X m_X4_hates 42 [vR r, a1, a2, a3, a4] st mem = ev X m_X4_hates 43 [vR r, a1, a2, a3, a4] (vR r :: st) mem := ke_aload_n rfl dX4_hates_42
theorem eX4_hates_43 : ev X m_X4_hates 43 [a0, a1, a2, a3, a4] (vR r :: st) mem = evb X (fget mem r 4 0) m_X4_hates 46 [a0, a1, a2, a3, a4] st mem := ke_getf rfl dX4_hates_43
theorem eX4_hates_46 : ev X m_X4_hates 46 [a0, vI x, a2, a3, a4] st mem = ev X m_X4_hates 47 [a0, vI x, a2, a3, a4] (vI x :: st) mem := ke_iload_n rfl dX4_hates_46
theorem eX4_hates_47 : ev X m_X4_hates 47 [a0, a1, vI x, a3, a4] st mem = ev X m_X4_hates 48 [a0, a1, vI x, a3, a4] (vI x :: st) mem := ke_iload_n rfl dX4_hates_47
theorem eX4_hates_48 : ev X m_X4_hates 48 [a0, a1, a2, a3, a4] (vI n1 :: vI n0 :: vR r :: []) mem = evc X (gR mem r 0 (ev X m_X0_hateOf 0 [vR r, vI n0, vI n1] [] mem)) m_X4_hates 51 [a0, a1, a2, a3, a4] [] := ke_callV (m' := m_X0_hateOf) (as := [vI n0, vI n1]) (n := 2) (rest := []) dX4_hates_48 rfl rfl rfl rfl rfl rfl (Nat.le_of_ble_eq_true rfl) (Nat.le_of_ble_eq_true rfl) (Nat.le_of_ble_eq_true rfl) rfl
theorem eX4_hates_51 : ev X m_X4_hates 51 [a0, a1, a2, a3, a4] (vI x :: st) mem = ev X m_X4_hates 53 [a0, a1, a2, a3, vI x] st mem := ke_istore (Nat.le_of_ble_eq_true rfl) rfl dX4_hates_51
theorem eX4_hates_53 : ev X m_X4_hates 53 [vR r, a1, a2, a3, a4] st mem = ev X m_X4_hates 54 [vR r, a1, a2, a3, a4] (vR r :: st) mem := ke_aload_n rfl dX4_hates_53
theorem eX4_hates_54 : ev X m_X4_hates 54 [a0, a1, a2, a3, a4] (vR r :: st) mem = evb X (fget mem r 4 0) m_X4_hates 57 [a0, a1, a2, a3, a4] st mem := ke_getf rfl dX4_hates_54
theorem eX4_hates_57 : ev X m_X4_hates 57 [a0, vI x, a2, a3, a4] st mem = ev X m_X4_hates 58 [a0, vI x, a2, a3, a4] (vI x :: st) mem := ke_iload_n rfl dX4_hates_57
theorem eX4_hates_58 : ev X m_X4_hates 58 [a0, a1, vI x, a3, a4] st mem = ev X m_X4_hates 59 [a0, a1, vI x, a3, a4] (vI x :: st) mem := ke_iload_n rfl dX4_hates_58
theorem eX4_hates_59 : ev X m_X4_hates 59 [a0, a1, a2, vI x, a4] st mem = ev X m_X4_hates 60 [a0, a1, a2, vI x, a4] (vI x :: st) mem := ke_iload_n rfl dX4_hates_59
theorem eX4_hates_60 : ev X m_X4_hates 60 [a0, a1, a2, a3, a4] (vI n2 :: vI n1 :: vI n0 :: vR r :: []) mem = evc X (gR mem r 0 (ev X m_X0_setHate 0 [vR r, vI n0, vI n1, vI n2] [] mem)) m_X4_hates 63 [a0, a1, a2, a3, a4] [] := ke_callV (m' := m_X0_setHate) (as := [vI n0, vI n1, vI n2]) (n := 3) (rest := []) dX4_hates_60 rfl rfl rfl rfl rfl rfl (Nat.le_of_ble_eq_true rfl) (Nat.le_of_ble_eq_true rfl) (Nat.le_of_ble_eq_true rfl) rfl
theorem eX4_hates_63 : ev X m_X4_hates 63 [a0, a1, a2, a3, a4] (vI x :: st) mem = ev X m_X4_hates 64 [a0, a1, a2, a3, a4] st mem := ke_popI dX4_hates_63
theorem eX4_hates_63r : ev X m_X4_hates 63 [a0, a1, a2, a3, a4] (vR r :: st) mem = ev X m_X4_hates 64 [a0, a1, a2, a3, a4] st mem := ke_popR dX4_hates_63
theorem eX4_hates_64 : ev X m_X4_hates 64 [a0, a1, a2, a3, vI x] st mem = ev X m_X4_hates 66 [a0, a1, a2, a3, vI x] (vI x :: st) mem := ke_iload rfl dX4_hates_64
theorem eX4_hates_66 : ev X m_X4_hates 66 [a0, a1, a2, a3, a4] [vI x] mem = some (some (vI x), mem) := ke_ireturn dX4_hates_66 rfl
theorem eX4_slights_0 : ev X m_X4_slights 0 [vR r, a1, a2] st mem = ev X m_X4_slights 1 [vR r, a1, a2] (vR r :: st) mem := ke_aload_n rfl dX4_slights_0
theorem eX4_slights_1 : ev X m_X4_slights 1 [a0, a1, a2] (vR r :: st) mem = evb X (fget mem r 4 0) m_X4_slights 4 [a0, a1, a2] st mem := ke_getf rfl dX4_slights_1
theorem eX4_slights_4 : ev X m_X4_slights 4 [a0, vI x, a2] st mem = ev X m_X4_slights 5 [a0, vI x, a2] (vI x :: st) mem := ke_iload_n rfl dX4_slights_4
theorem eX4_slights_5 : ev X m_X4_slights 5 [a0, a1, vI x] st mem = ev X m_X4_slights 6 [a0, a1, vI x] (vI x :: st) mem := ke_iload_n rfl dX4_slights_5
theorem eX4_slights_6 : ev X m_X4_slights 6 [a0, a1, a2] (vI n1 :: vI n0 :: vR r :: []) mem = evc X (gR mem r 0 (ev X m_X0_hasPair 0 [vR r, vI n0, vI n1] [] mem)) m_X4_slights 9 [a0, a1, a2] [] := ke_callV (m' := m_X0_hasPair) (as := [vI n0, vI n1]) (n := 2) (rest := []) dX4_slights_6 rfl rfl rfl rfl rfl rfl (Nat.le_of_ble_eq_true rfl) (Nat.le_of_ble_eq_true rfl) (Nat.le_of_ble_eq_true rfl) rfl
theorem eX4_slights_9 : ev X m_X4_slights 9 [a0, a1, a2] (vI x :: st) mem = if x = 0 then ev X m_X4_slights 12 [a0, a1, a2] st mem else ev X m_X4_slights 18 [a0, a1, a2] st mem := ke_if_ne dX4_slights_9 rfl
theorem eX4_slights_12 : ev X m_X4_slights 12 [vR r, a1, a2] st mem = ev X m_X4_slights 13 [vR r, a1, a2] (vR r :: st) mem := ke_aload_n rfl dX4_slights_12
theorem eX4_slights_13 : ev X m_X4_slights 13 [a0, a1, a2] st mem = ev X m_X4_slights 14 [a0, a1, a2] (vI (-1) :: st) mem := ke_iconst (by decide) dX4_slights_13
theorem eX4_slights_14 : ev X m_X4_slights 14 [a0, a1, a2] (vI n0 :: vR r :: []) mem = evc X (gR mem r 4 (ev X m_X4_refuse 0 [vR r, vI n0] [] mem)) m_X4_slights 17 [a0, a1, a2] [] := ke_callV (m' := m_X4_refuse) (as := [vI n0]) (n := 1) (rest := []) dX4_slights_14 rfl rfl rfl rfl rfl rfl (Nat.le_of_ble_eq_true rfl) (Nat.le_of_ble_eq_true rfl) (Nat.le_of_ble_eq_true rfl) rfl
theorem eX4_slights_17 : ev X m_X4_slights 17 [a0, a1, a2] [vI x] mem = some (some (vI x), mem) := ke_ireturn dX4_slights_17 rfl
theorem eX4_slights_18 : ev X m_X4_slights 18 [vR r, a1, a2] st mem = ev X m_X4_slights 19 [vR r, a1, a2] (vR r :: st) mem := ke_aload_n rfl dX4_slights_18
theorem eX4_slights_19 : ev X m_X4_slights 19 [a0, a1, a2] (vR r :: st) mem = evb X (fget mem r 4 0) m_X4_slights 22 [a0, a1, a2] st mem := ke_getf rfl dX4_slights_19
theorem eX4_slights_22 : ev X m_X4_slights 22 [a0, vI x, a2] st mem = ev X m_X4_slights 23 [a0, vI x, a2] (vI x :: st) mem := ke_iload_n rfl dX4_slights_22
theorem eX4_slights_23 : ev X m_X4_slights 23 [a0, a1, vI x] st mem = ev X m_X4_slights 24 [a0, a1, vI x] (vI x :: st) mem := ke_iload_n rfl dX4_slights_23
theorem eX4_slights_24 : ev X m_X4_slights 24 [a0, a1, a2] st mem = ev X m_X4_slights 26 [a0, a1, a2] (vI 10 :: st) mem := ke_bipush (by decide) dX4_slights_24
theorem eX4_slights_26 : ev X m_X4_slights 26 [a0, a1, a2] (vI n2 :: vI n1 :: vI n0 :: vR r :: []) mem = evc X (gR mem r 0 (ev X m_X0_addHate 0 [vR r, vI n0, vI n1, vI n2, vS] [] mem)) m_X4_slights 29 [a0, a1, a2] [] := ke_callV (m' := m_X0_addHate) (as := [vI n0, vI n1, vI n2]) (n := 3) (rest := []) dX4_slights_26 rfl rfl rfl rfl rfl rfl (Nat.le_of_ble_eq_true rfl) (Nat.le_of_ble_eq_true rfl) (Nat.le_of_ble_eq_true rfl) rfl
theorem eX4_slights_29 : ev X m_X4_slights 29 [a0, a1, a2] (vI x :: st) mem = ev X m_X4_slights 30 [a0, a1, a2] st mem := ke_popI dX4_slights_29
theorem eX4_slights_29r : ev X m_X4_slights 29 [a0, a1, a2] (vR r :: st) mem = ev X m_X4_slights 30 [a0, a1, a2] st mem := ke_popR dX4_slights_29
theorem eX4_slights_30 : ev X m_X4_slights 30 [vR r, a1, a2] st mem = ev X m_X4_slights 31 [vR r, a1, a2] (vR r :: st) mem := ke_aload_n rfl dX4_slights_30
theorem eX4_slights_31 : ev X m_X4_slights 31 [a0, a1, a2] (vR r :: st) mem = evb X (fget mem r 4 0) m_X4_slights 34 [a0, a1, a2] st mem := ke_getf rfl dX4_slights_31
theorem eX4_slights_34 : ev X m_X4_slights 34 [a0, vI x, a2] st mem = ev X m_X4_slights 35 [a0, vI x, a2] (vI x :: st) mem := ke_iload_n rfl dX4_slights_34
theorem eX4_slights_35 : ev X m_X4_slights 35 [a0, a1, vI x] st mem = ev X m_X4_slights 36 [a0, a1, vI x] (vI x :: st) mem := ke_iload_n rfl dX4_slights_35
theorem eX4_slights_36 : ev X m_X4_slights 36 [a0, a1, a2] (vI n1 :: vI n0 :: vR r :: []) mem = evc X (gR mem r 0 (ev X m_X0_hateOf 0 [vR r, vI n0, vI n1] [] mem)) m_X4_slights 39 [a0, a1, a2] [] := ke_callV (m' := m_X0_hateOf) (as := [vI n0, vI n1]) (n := 2) (rest := []) dX4_slights_36 rfl rfl rfl rfl rfl rfl (Nat.le_of_ble_eq_true rfl) (Nat.le_of_ble_eq_true rfl) (Nat.le_of_ble_eq_true rfl) rfl
theorem eX4_slights_39 : ev X m_X4_slights 39 [a0, a1, a2] [vI x] mem = some (some (vI x), mem) := ke_ireturn dX4_slights_39 rfl
theorem eX4_peace_0 : ev X m_X4_peace 0 [vR r, a1, a2] st mem = ev X m_X4_peace 1 [vR r, a1, a2] (vR r :: st) mem := ke_aload_n rfl dX4_peace_0
theorem eX4_peace_1 : ev X m_X4_peace 1 [a0, a1, a2] (vR r :: st) mem = evb X (fget mem r 4 0) m_X4_peace 4 [a0, a1, a2] st mem := ke_getf rfl dX4_peace_1
theorem eX4_peace_4 : ev X m_X4_peace 4 [a0, vI x, a2] st mem = ev X m_X4_peace 5 [a0, vI x, a2] (vI x :: st) mem := ke_iload_n rfl dX4_peace_4
theorem eX4_peace_5 : ev X m_X4_peace 5 [a0, a1, vI x] st mem = ev X m_X4_peace 6 [a0, a1, vI x] (vI x :: st) mem := ke_iload_n rfl dX4_peace_5
theorem eX4_peace_6 : ev X m_X4_peace 6 [a0, a1, a2] (vI n1 :: vI n0 :: vR r :: []) mem = evc X (gR mem r 0 (ev X m_X0_hasPair 0 [vR r, vI n0, vI n1] [] mem)) m_X4_peace 9 [a0, a1, a2] [] := ke_callV (m' := m_X0_hasPair) (as := [vI n0, vI n1]) (n := 2) (rest := []) dX4_peace_6 rfl rfl rfl rfl rfl rfl (Nat.le_of_ble_eq_true rfl) (Nat.le_of_ble_eq_true rfl) (Nat.le_of_ble_eq_true rfl) rfl
theorem eX4_peace_9 : ev X m_X4_peace 9 [a0, a1, a2] (vI x :: st) mem = if x = 0 then ev X m_X4_peace 12 [a0, a1, a2] st mem else ev X m_X4_peace 18 [a0, a1, a2] st mem := ke_if_ne dX4_peace_9 rfl
theorem eX4_peace_12 : ev X m_X4_peace 12 [vR r, a1, a2] st mem = ev X m_X4_peace 13 [vR r, a1, a2] (vR r :: st) mem := ke_aload_n rfl dX4_peace_12
theorem eX4_peace_13 : ev X m_X4_peace 13 [a0, a1, a2] st mem = ev X m_X4_peace 14 [a0, a1, a2] (vI (-1) :: st) mem := ke_iconst (by decide) dX4_peace_13
theorem eX4_peace_14 : ev X m_X4_peace 14 [a0, a1, a2] (vI n0 :: vR r :: []) mem = evc X (gR mem r 4 (ev X m_X4_refuse 0 [vR r, vI n0] [] mem)) m_X4_peace 17 [a0, a1, a2] [] := ke_callV (m' := m_X4_refuse) (as := [vI n0]) (n := 1) (rest := []) dX4_peace_14 rfl rfl rfl rfl rfl rfl (Nat.le_of_ble_eq_true rfl) (Nat.le_of_ble_eq_true rfl) (Nat.le_of_ble_eq_true rfl) rfl
theorem eX4_peace_17 : ev X m_X4_peace 17 [a0, a1, a2] [vI x] mem = some (some (vI x), mem) := ke_ireturn dX4_peace_17 rfl
theorem eX4_peace_18 : ev X m_X4_peace 18 [vR r, a1, a2] st mem = ev X m_X4_peace 19 [vR r, a1, a2] (vR r :: st) mem := ke_aload_n rfl dX4_peace_18
theorem eX4_peace_19 : ev X m_X4_peace 19 [a0, a1, a2] (vR r :: st) mem = evb X (fget mem r 4 0) m_X4_peace 22 [a0, a1, a2] st mem := ke_getf rfl dX4_peace_19
theorem eX4_peace_22 : ev X m_X4_peace 22 [a0, vI x, a2] st mem = ev X m_X4_peace 23 [a0, vI x, a2] (vI x :: st) mem := ke_iload_n rfl dX4_peace_22
theorem eX4_peace_23 : ev X m_X4_peace 23 [a0, a1, vI x] st mem = ev X m_X4_peace 24 [a0, a1, vI x] (vI x :: st) mem := ke_iload_n rfl dX4_peace_23
theorem eX4_peace_24 : ev X m_X4_peace 24 [a0, a1, a2] (vI n1 :: vI n0 :: vR r :: []) mem = evc X (gR mem r 0 (ev X m_X0_makePeace 0 [vR r, vI n0, vI n1] [] mem)) m_X4_peace 27 [a0, a1, a2] [] := ke_callV (m' := m_X0_makePeace) (as := [vI n0, vI n1]) (n := 2) (rest := []) dX4_peace_24 rfl rfl rfl rfl rfl rfl (Nat.le_of_ble_eq_true rfl) (Nat.le_of_ble_eq_true rfl) (Nat.le_of_ble_eq_true rfl) rfl
theorem eX4_peace_27 : ev X m_X4_peace 27 [a0, a1, a2] (vI x :: st) mem = ev X m_X4_peace 28 [a0, a1, a2] st mem := ke_popI dX4_peace_27
theorem eX4_peace_27r : ev X m_X4_peace 27 [a0, a1, a2] (vR r :: st) mem = ev X m_X4_peace 28 [a0, a1, a2] st mem := ke_popR dX4_peace_27
theorem eX4_peace_28 : ev X m_X4_peace 28 [vR r, a1, a2] st mem = ev X m_X4_peace 29 [vR r, a1, a2] (vR r :: st) mem := ke_aload_n rfl dX4_peace_28
theorem eX4_peace_29 : ev X m_X4_peace 29 [a0, a1, a2] (vR r :: st) mem = evb X (fget mem r 4 0) m_X4_peace 32 [a0, a1, a2] st mem := ke_getf rfl dX4_peace_29
theorem eX4_peace_32 : ev X m_X4_peace 32 [a0, vI x, a2] st mem = ev X m_X4_peace 33 [a0, vI x, a2] (vI x :: st) mem := ke_iload_n rfl dX4_peace_32
theorem eX4_peace_33 : ev X m_X4_peace 33 [a0, a1, vI x] st mem = ev X m_X4_peace 34 [a0, a1, vI x] (vI x :: st) mem := ke_iload_n rfl dX4_peace_33
theorem eX4_peace_34 : ev X m_X4_peace 34 [a0, a1, a2] (vI n1 :: vI n0 :: vR r :: []) mem = evc X (gR mem r 0 (ev X m_X0_hateOf 0 [vR r, vI n0, vI n1] [] mem)) m_X4_peace 37 [a0, a1, a2] [] := ke_callV (m' := m_X0_hateOf) (as := [vI n0, vI n1]) (n := 2) (rest := []) dX4_peace_34 rfl rfl rfl rfl rfl rfl (Nat.le_of_ble_eq_true rfl) (Nat.le_of_ble_eq_true rfl) (Nat.le_of_ble_eq_true rfl) rfl
theorem eX4_peace_37 : ev X m_X4_peace 37 [vR r, a1, a2] st mem = ev X m_X4_peace 38 [vR r, a1, a2] (vR r :: st) mem := ke_aload_n rfl dX4_peace_37
theorem eX4_peace_38 : ev X m_X4_peace 38 [a0, a1, a2] (vR r :: st) mem = evb X (fget mem r 4 0) m_X4_peace 41 [a0, a1, a2] st mem := ke_getf rfl dX4_peace_38
theorem eX4_peace_41 : ev X m_X4_peace 41 [a0, a1, vI x] st mem = ev X m_X4_peace 42 [a0, a1, vI x] (vI x :: st) mem := ke_iload_n rfl dX4_peace_41
theorem eX4_peace_42 : ev X m_X4_peace 42 [a0, vI x, a2] st mem = ev X m_X4_peace 43 [a0, vI x, a2] (vI x :: st) mem := ke_iload_n rfl dX4_peace_42
theorem eX4_peace_43 : ev X m_X4_peace 43 [a0, a1, a2] (vI n1 :: vI n0 :: vR r :: [s0]) mem = evc X (gR mem r 0 (ev X m_X0_hateOf 0 [vR r, vI n0, vI n1] [] mem)) m_X4_peace 46 [a0, a1, a2] [s0] := ke_callV (m' := m_X0_hateOf) (as := [vI n0, vI n1]) (n := 2) (rest := [s0]) dX4_peace_43 rfl rfl rfl rfl rfl rfl (Nat.le_of_ble_eq_true rfl) (Nat.le_of_ble_eq_true rfl) (Nat.le_of_ble_eq_true rfl) rfl
theorem eX4_peace_46 : ev X m_X4_peace 46 [a0, a1, a2] (vI y :: vI x :: st) mem = ev X m_X4_peace 47 [a0, a1, a2] (vI (w32 (x + y)) :: st) mem := ke_iadd dX4_peace_46
theorem eX4_peace_47 : ev X m_X4_peace 47 [a0, a1, a2] [vI x] mem = some (some (vI x), mem) := ke_ireturn dX4_peace_47 rfl
theorem eX4_moves_0 : ev X m_X4_moves 0 [vR r, a1, a2, a3] st mem = ev X m_X4_moves 1 [vR r, a1, a2, a3] (vR r :: st) mem := ke_aload_n rfl dX4_moves_0
theorem eX4_moves_1 : ev X m_X4_moves 1 [a0, a1, a2, a3] (vR r :: st) mem = evb X (fget mem r 4 0) m_X4_moves 4 [a0, a1, a2, a3] st mem := ke_getf rfl dX4_moves_1
theorem eX4_moves_4 : ev X m_X4_moves 4 [a0, vI x, a2, a3] st mem = ev X m_X4_moves 5 [a0, vI x, a2, a3] (vI x :: st) mem := ke_iload_n rfl dX4_moves_4
theorem eX4_moves_5 : ev X m_X4_moves 5 [a0, a1, a2, a3] (vI n0 :: vR r :: []) mem = evc X (gR mem r 0 (ev X m_X0_hasPerson 0 [vR r, vI n0] [] mem)) m_X4_moves 8 [a0, a1, a2, a3] [] := ke_callV (m' := m_X0_hasPerson) (as := [vI n0]) (n := 1) (rest := []) dX4_moves_5 rfl rfl rfl rfl rfl rfl (Nat.le_of_ble_eq_true rfl) (Nat.le_of_ble_eq_true rfl) (Nat.le_of_ble_eq_true rfl) rfl
theorem eX4_moves_8 : ev X m_X4_moves 8 [a0, a1, a2, a3] (vI x :: st) mem = if x = 0 then ev X m_X4_moves 11 [a0, a1, a2, a3] st mem else ev X m_X4_moves 17 [a0, a1, a2, a3] st mem := ke_if_ne dX4_moves_8 rfl
theorem eX4_moves_11 : ev X m_X4_moves 11 [vR r, a1, a2, a3] st mem = ev X m_X4_moves 12 [vR r, a1, a2, a3] (vR r :: st) mem := ke_aload_n rfl dX4_moves_11
theorem eX4_moves_12 : ev X m_X4_moves 12 [a0, a1, a2, a3] st mem = ev X m_X4_moves 13 [a0, a1, a2, a3] (vI (-1) :: st) mem := ke_iconst (by decide) dX4_moves_12
theorem eX4_moves_13 : ev X m_X4_moves 13 [a0, a1, a2, a3] (vI n0 :: vR r :: []) mem = evc X (gR mem r 4 (ev X m_X4_refuse 0 [vR r, vI n0] [] mem)) m_X4_moves 16 [a0, a1, a2, a3] [] := ke_callV (m' := m_X4_refuse) (as := [vI n0]) (n := 1) (rest := []) dX4_moves_13 rfl rfl rfl rfl rfl rfl (Nat.le_of_ble_eq_true rfl) (Nat.le_of_ble_eq_true rfl) (Nat.le_of_ble_eq_true rfl) rfl
theorem eX4_moves_16 : ev X m_X4_moves 16 [a0, a1, a2, a3] [vI x] mem = some (some (vI x), mem) := ke_ireturn dX4_moves_16 rfl
theorem eX4_moves_17 : ev X m_X4_moves 17 [a0, a1, vI x, a3] st mem = ev X m_X4_moves 18 [a0, a1, vI x, a3] (vI x :: st) mem := ke_iload_n rfl dX4_moves_17
theorem eX4_moves_18 : ev X m_X4_moves 18 [a0, a1, a2, a3] (vI x :: st) mem = if x < 0 then ev X m_X4_moves 21 [a0, a1, a2, a3] st mem else ev X m_X4_moves 28 [a0, a1, a2, a3] st mem := ke_if_ge dX4_moves_18 rfl
theorem eX4_moves_21 : ev X m_X4_moves 21 [vR r, a1, a2, a3] st mem = ev X m_X4_moves 22 [vR r, a1, a2, a3] (vR r :: st) mem := ke_aload_n rfl dX4_moves_21
theorem eX4_moves_22 : ev X m_X4_moves 22 [a0, a1, a2, a3] st mem = ev X m_X4_moves 24 [a0, a1, a2, a3] (vI (-4) :: st) mem := ke_bipush (by decide) dX4_moves_22
theorem eX4_moves_24 : ev X m_X4_moves 24 [a0, a1, a2, a3] (vI n0 :: vR r :: []) mem = evc X (gR mem r 4 (ev X m_X4_refuse 0 [vR r, vI n0] [] mem)) m_X4_moves 27 [a0, a1, a2, a3] [] := ke_callV (m' := m_X4_refuse) (as := [vI n0]) (n := 1) (rest := []) dX4_moves_24 rfl rfl rfl rfl rfl rfl (Nat.le_of_ble_eq_true rfl) (Nat.le_of_ble_eq_true rfl) (Nat.le_of_ble_eq_true rfl) rfl
theorem eX4_moves_27 : ev X m_X4_moves 27 [a0, a1, a2, a3] [vI x] mem = some (some (vI x), mem) := ke_ireturn dX4_moves_27 rfl
theorem eX4_moves_28 : ev X m_X4_moves 28 [a0, a1, vI x, a3] st mem = ev X m_X4_moves 29 [a0, a1, vI x, a3] (vI x :: st) mem := ke_iload_n rfl dX4_moves_28
theorem eX4_moves_29 : ev X m_X4_moves 29 [a0, a1, a2, a3] st mem = ev X m_X4_moves 31 [a0, a1, a2, a3] (vI 30 :: st) mem := ke_bipush (by decide) dX4_moves_29
theorem eX4_moves_31 : ev X m_X4_moves 31 [a0, a1, a2, a3] (vI y :: vI x :: st) mem = if y < x then ev X m_X4_moves 34 [a0, a1, a2, a3] st mem else ev X m_X4_moves 41 [a0, a1, a2, a3] st mem := ke_icmp_le dX4_moves_31 rfl
theorem eX4_moves_34 : ev X m_X4_moves 34 [vR r, a1, a2, a3] st mem = ev X m_X4_moves 35 [vR r, a1, a2, a3] (vR r :: st) mem := ke_aload_n rfl dX4_moves_34
theorem eX4_moves_35 : ev X m_X4_moves 35 [a0, a1, a2, a3] st mem = ev X m_X4_moves 37 [a0, a1, a2, a3] (vI (-6) :: st) mem := ke_bipush (by decide) dX4_moves_35
theorem eX4_moves_37 : ev X m_X4_moves 37 [a0, a1, a2, a3] (vI n0 :: vR r :: []) mem = evc X (gR mem r 4 (ev X m_X4_refuse 0 [vR r, vI n0] [] mem)) m_X4_moves 40 [a0, a1, a2, a3] [] := ke_callV (m' := m_X4_refuse) (as := [vI n0]) (n := 1) (rest := []) dX4_moves_37 rfl rfl rfl rfl rfl rfl (Nat.le_of_ble_eq_true rfl) (Nat.le_of_ble_eq_true rfl) (Nat.le_of_ble_eq_true rfl) rfl
theorem eX4_moves_40 : ev X m_X4_moves 40 [a0, a1, a2, a3] [vI x] mem = some (some (vI x), mem) := ke_ireturn dX4_moves_40 rfl
theorem eX4_moves_41 : ev X m_X4_moves 41 [vR r, a1, a2, a3] st mem = ev X m_X4_moves 42 [vR r, a1, a2, a3] (vR r :: st) mem := ke_aload_n rfl dX4_moves_41
theorem eX4_moves_42 : ev X m_X4_moves 42 [a0, a1, a2, a3] (vR r :: st) mem = evb X (fget mem r 4 0) m_X4_moves 45 [a0, a1, a2, a3] st mem := ke_getf rfl dX4_moves_42
theorem eX4_moves_45 : ev X m_X4_moves 45 [a0, a1, a2, a3] (vR r :: st) mem = evb X (fget mem r 0 5) m_X4_moves 48 [a0, a1, a2, a3] st mem := ke_getf rfl dX4_moves_45
theorem eX4_moves_48 : ev X m_X4_moves 48 [a0, vI x, a2, a3] st mem = ev X m_X4_moves 49 [a0, vI x, a2, a3] (vI x :: st) mem := ke_iload_n rfl dX4_moves_48
theorem eX4_moves_49 : ev X m_X4_moves 49 [a0, a1, a2, a3] (vI x :: vR r :: st) mem = evb X (aget mem r x) m_X4_moves 50 [a0, a1, a2, a3] st mem := ke_iaload dX4_moves_49
theorem eX4_moves_50 : ev X m_X4_moves 50 [a0, a1, a2, a3] (vI x :: st) mem = ev X m_X4_moves 51 [a0, a1, a2, vI x] st mem := ke_istore_n (Nat.le_of_ble_eq_true rfl) rfl dX4_moves_50
theorem eX4_moves_51 : ev X m_X4_moves 51 [vR r, a1, a2, a3] st mem = ev X m_X4_moves 52 [vR r, a1, a2, a3] (vR r :: st) mem := ke_aload_n rfl dX4_moves_51
theorem eX4_moves_52 : ev X m_X4_moves 52 [a0, a1, a2, a3] (vR r :: st) mem = evb X (fget mem r 4 0) m_X4_moves 55 [a0, a1, a2, a3] st mem := ke_getf rfl dX4_moves_52
theorem eX4_moves_55 : ev X m_X4_moves 55 [a0, a1, a2, a3] (vR r :: st) mem = evb X (fget mem r 0 5) m_X4_moves 58 [a0, a1, a2, a3] st mem := ke_getf rfl dX4_moves_55
theorem eX4_moves_58 : ev X m_X4_moves 58 [a0, vI x, a2, a3] st mem = ev X m_X4_moves 59 [a0, vI x, a2, a3] (vI x :: st) mem := ke_iload_n rfl dX4_moves_58
theorem eX4_moves_59 : ev X m_X4_moves 59 [a0, a1, vI x, a3] st mem = ev X m_X4_moves 60 [a0, a1, vI x, a3] (vI x :: st) mem := ke_iload_n rfl dX4_moves_59
theorem eX4_moves_60 : ev X m_X4_moves 60 [a0, a1, a2, a3] (vI y :: vI x :: vR r :: st) mem = evm X (aput mem r x y) m_X4_moves 61 [a0, a1, a2, a3] st := ke_iastore dX4_moves_60
theorem eX4_moves_61 : ev X m_X4_moves 61 [a0, a1, a2, vI x] st mem = ev X m_X4_moves 62 [a0, a1, a2, vI x] (vI x :: st) mem := ke_iload_n rfl dX4_moves_61
theorem eX4_moves_62 : ev X m_X4_moves 62 [a0, a1, a2, a3] [vI x] mem = some (some (vI x), mem) := ke_ireturn dX4_moves_62 rfl
theorem eX4_turn_0 : ev X m_X4_turn 0 [vR r, a1, a2, a3, a4] st mem = ev X m_X4_turn 1 [vR r, a1, a2, a3, a4] (vR r :: st) mem := ke_aload_n rfl dX4_turn_0
theorem eX4_turn_1 : ev X m_X4_turn 1 [a0, a1, a2, a3, a4] (vR r :: st) mem = evb X (fget mem r 4 0) m_X4_turn 4 [a0, a1, a2, a3, a4] st mem := ke_getf rfl dX4_turn_1
theorem eX4_turn_4 : ev X m_X4_turn 4 [a0, vI x, a2, a3, a4] st mem = ev X m_X4_turn 5 [a0, vI x, a2, a3, a4] (vI x :: st) mem := ke_iload_n rfl dX4_turn_4
theorem eX4_turn_5 : ev X m_X4_turn 5 [a0, a1, a2, a3, a4] (vI n0 :: vR r :: []) mem = evc X (gR mem r 0 (ev X m_X0_hasPerson 0 [vR r, vI n0] [] mem)) m_X4_turn 8 [a0, a1, a2, a3, a4] [] := ke_callV (m' := m_X0_hasPerson) (as := [vI n0]) (n := 1) (rest := []) dX4_turn_5 rfl rfl rfl rfl rfl rfl (Nat.le_of_ble_eq_true rfl) (Nat.le_of_ble_eq_true rfl) (Nat.le_of_ble_eq_true rfl) rfl
theorem eX4_turn_8 : ev X m_X4_turn 8 [a0, a1, a2, a3, a4] (vI x :: st) mem = if x = 0 then ev X m_X4_turn 11 [a0, a1, a2, a3, a4] st mem else ev X m_X4_turn 17 [a0, a1, a2, a3, a4] st mem := ke_if_ne dX4_turn_8 rfl
theorem eX4_turn_11 : ev X m_X4_turn 11 [vR r, a1, a2, a3, a4] st mem = ev X m_X4_turn 12 [vR r, a1, a2, a3, a4] (vR r :: st) mem := ke_aload_n rfl dX4_turn_11
theorem eX4_turn_12 : ev X m_X4_turn 12 [a0, a1, a2, a3, a4] st mem = ev X m_X4_turn 13 [a0, a1, a2, a3, a4] (vI (-1) :: st) mem := ke_iconst (by decide) dX4_turn_12
theorem eX4_turn_13 : ev X m_X4_turn 13 [a0, a1, a2, a3, a4] (vI n0 :: vR r :: []) mem = evc X (gR mem r 4 (ev X m_X4_refuse 0 [vR r, vI n0] [] mem)) m_X4_turn 16 [a0, a1, a2, a3, a4] [] := ke_callV (m' := m_X4_refuse) (as := [vI n0]) (n := 1) (rest := []) dX4_turn_13 rfl rfl rfl rfl rfl rfl (Nat.le_of_ble_eq_true rfl) (Nat.le_of_ble_eq_true rfl) (Nat.le_of_ble_eq_true rfl) rfl
theorem eX4_turn_16 : ev X m_X4_turn 16 [a0, a1, a2, a3, a4] [vI x] mem = some (some (vI x), mem) := ke_ireturn dX4_turn_16 rfl
theorem eX4_turn_17 : ev X m_X4_turn 17 [a0, a1, vI x, a3, a4] st mem = ev X m_X4_turn 18 [a0, a1, vI x, a3, a4] (vI x :: st) mem := ke_iload_n rfl dX4_turn_17
theorem eX4_turn_18 : ev X m_X4_turn 18 [a0, a1, a2, a3, a4] (vI x :: st) mem = if x < 0 then ev X m_X4_turn 27 [a0, a1, a2, a3, a4] st mem else ev X m_X4_turn 21 [a0, a1, a2, a3, a4] st mem := ke_if_lt dX4_turn_18 rfl
theorem eX4_turn_21 : ev X m_X4_turn 21 [a0, a1, vI x, a3, a4] st mem = ev X m_X4_turn 22 [a0, a1, vI x, a3, a4] (vI x :: st) mem := ke_iload_n rfl dX4_turn_21
theorem eX4_turn_22 : ev X m_X4_turn 22 [a0, a1, a2, a3, a4] st mem = ev X m_X4_turn 24 [a0, a1, a2, a3, a4] (vI 6 :: st) mem := ke_bipush (by decide) dX4_turn_22
theorem eX4_turn_24 : ev X m_X4_turn 24 [a0, a1, a2, a3, a4] (vI y :: vI x :: st) mem = if x < y then ev X m_X4_turn 34 [a0, a1, a2, a3, a4] st mem else ev X m_X4_turn 27 [a0, a1, a2, a3, a4] st mem := ke_icmp_lt dX4_turn_24 rfl
theorem eX4_turn_27 : ev X m_X4_turn 27 [vR r, a1, a2, a3, a4] st mem = ev X m_X4_turn 28 [vR r, a1, a2, a3, a4] (vR r :: st) mem := ke_aload_n rfl dX4_turn_27
theorem eX4_turn_28 : ev X m_X4_turn 28 [a0, a1, a2, a3, a4] st mem = ev X m_X4_turn 30 [a0, a1, a2, a3, a4] (vI (-2) :: st) mem := ke_bipush (by decide) dX4_turn_28
theorem eX4_turn_30 : ev X m_X4_turn 30 [a0, a1, a2, a3, a4] (vI n0 :: vR r :: []) mem = evc X (gR mem r 4 (ev X m_X4_refuse 0 [vR r, vI n0] [] mem)) m_X4_turn 33 [a0, a1, a2, a3, a4] [] := ke_callV (m' := m_X4_refuse) (as := [vI n0]) (n := 1) (rest := []) dX4_turn_30 rfl rfl rfl rfl rfl rfl (Nat.le_of_ble_eq_true rfl) (Nat.le_of_ble_eq_true rfl) (Nat.le_of_ble_eq_true rfl) rfl
theorem eX4_turn_33 : ev X m_X4_turn 33 [a0, a1, a2, a3, a4] [vI x] mem = some (some (vI x), mem) := ke_ireturn dX4_turn_33 rfl
theorem eX4_turn_34 : ev X m_X4_turn 34 [a0, a1, a2, vI x, a4] st mem = ev X m_X4_turn 35 [a0, a1, a2, vI x, a4] (vI x :: st) mem := ke_iload_n rfl dX4_turn_34
theorem eX4_turn_35 : ev X m_X4_turn 35 [a0, a1, a2, a3, a4] (vI x :: st) mem = if x < 0 then ev X m_X4_turn 38 [a0, a1, a2, a3, a4] st mem else ev X m_X4_turn 45 [a0, a1, a2, a3, a4] st mem := ke_if_ge dX4_turn_35 rfl
theorem eX4_turn_38 : ev X m_X4_turn 38 [vR r, a1, a2, a3, a4] st mem = ev X m_X4_turn 39 [vR r, a1, a2, a3, a4] (vR r :: st) mem := ke_aload_n rfl dX4_turn_38
theorem eX4_turn_39 : ev X m_X4_turn 39 [a0, a1, a2, a3, a4] st mem = ev X m_X4_turn 41 [a0, a1, a2, a3, a4] (vI (-4) :: st) mem := ke_bipush (by decide) dX4_turn_39
theorem eX4_turn_41 : ev X m_X4_turn 41 [a0, a1, a2, a3, a4] (vI n0 :: vR r :: []) mem = evc X (gR mem r 4 (ev X m_X4_refuse 0 [vR r, vI n0] [] mem)) m_X4_turn 44 [a0, a1, a2, a3, a4] [] := ke_callV (m' := m_X4_refuse) (as := [vI n0]) (n := 1) (rest := []) dX4_turn_41 rfl rfl rfl rfl rfl rfl (Nat.le_of_ble_eq_true rfl) (Nat.le_of_ble_eq_true rfl) (Nat.le_of_ble_eq_true rfl) rfl
theorem eX4_turn_44 : ev X m_X4_turn 44 [a0, a1, a2, a3, a4] [vI x] mem = some (some (vI x), mem) := ke_ireturn dX4_turn_44 rfl
theorem eX4_turn_45 : ev X m_X4_turn 45 [a0, a1, a2, vI x, a4] st mem = ev X m_X4_turn 46 [a0, a1, a2, vI x, a4] (vI x :: st) mem := ke_iload_n rfl dX4_turn_45
theorem eX4_turn_46 : ev X m_X4_turn 46 [a0, a1, a2, a3, a4] st mem = ev X m_X4_turn 48 [a0, a1, a2, a3, a4] (vI 9 :: st) mem := ke_bipush (by decide) dX4_turn_46
theorem eX4_turn_48 : ev X m_X4_turn 48 [a0, a1, a2, a3, a4] (vI y :: vI x :: st) mem = if y < x then ev X m_X4_turn 51 [a0, a1, a2, a3, a4] st mem else ev X m_X4_turn 58 [a0, a1, a2, a3, a4] st mem := ke_icmp_le dX4_turn_48 rfl
theorem eX4_turn_51 : ev X m_X4_turn 51 [vR r, a1, a2, a3, a4] st mem = ev X m_X4_turn 52 [vR r, a1, a2, a3, a4] (vR r :: st) mem := ke_aload_n rfl dX4_turn_51
theorem eX4_turn_52 : ev X m_X4_turn 52 [a0, a1, a2, a3, a4] st mem = ev X m_X4_turn 54 [a0, a1, a2, a3, a4] (vI (-6) :: st) mem := ke_bipush (by decide) dX4_turn_52
theorem eX4_turn_54 : ev X m_X4_turn 54 [a0, a1, a2, a3, a4] (vI n0 :: vR r :: []) mem = evc X (gR mem r 4 (ev X m_X4_refuse 0 [vR r, vI n0] [] mem)) m_X4_turn 57 [a0, a1, a2, a3, a4] [] := ke_callV (m' := m_X4_refuse) (as := [vI n0]) (n := 1) (rest := []) dX4_turn_54 rfl rfl rfl rfl rfl rfl (Nat.le_of_ble_eq_true rfl) (Nat.le_of_ble_eq_true rfl) (Nat.le_of_ble_eq_true rfl) rfl
theorem eX4_turn_57 : ev X m_X4_turn 57 [a0, a1, a2, a3, a4] [vI x] mem = some (some (vI x), mem) := ke_ireturn dX4_turn_57 rfl
theorem eX4_turn_58 : ev X m_X4_turn 58 [a0, a1, a2, a3, a4] st mem = ev X m_X4_turn 60 [a0, a1, a2, a3, a4] (vI 10 :: st) mem := ke_bipush (by decide) dX4_turn_58
theorem eX4_turn_60 : ev X m_X4_turn 60 [vR r, a1, a2, a3, a4] st mem = ev X m_X4_turn 61 [vR r, a1, a2, a3, a4] (vR r :: st) mem := ke_aload_n rfl dX4_turn_60
theorem eX4_turn_61 : ev X m_X4_turn 61 [a0, a1, a2, a3, a4] (vR r :: st) mem = evb X (fget mem r 4 0) m_X4_turn 64 [a0, a1, a2, a3, a4] st mem := ke_getf rfl dX4_turn_61
theorem eX4_turn_64 : ev X m_X4_turn 64 [a0, a1, a2, a3, a4] (vR r :: st) mem = evb X (fget mem r 0 3) m_X4_turn 67 [a0, a1, a2, a3, a4] st mem := ke_getf rfl dX4_turn_64
theorem eX4_turn_67 : ev X m_X4_turn 67 [a0, vI x, a2, a3, a4] st mem = ev X m_X4_turn 68 [a0, vI x, a2, a3, a4] (vI x :: st) mem := ke_iload_n rfl dX4_turn_67
theorem eX4_turn_68 : ev X m_X4_turn 68 [a0, a1, a2, a3, a4] (vI x :: vR r :: st) mem = evb X (aget mem r x) m_X4_turn 69 [a0, a1, a2, a3, a4] st mem := ke_iaload dX4_turn_68
theorem eX4_turn_69 : ev X m_X4_turn 69 [a0, a1, a2, a3, a4] (vI y :: vI x :: st) mem = ev X m_X4_turn 70 [a0, a1, a2, a3, a4] (vI (w32 (x * y)) :: st) mem := ke_imul dX4_turn_69
theorem eX4_turn_70 : ev X m_X4_turn 70 [vR r, a1, a2, a3, a4] st mem = ev X m_X4_turn 71 [vR r, a1, a2, a3, a4] (vR r :: st) mem := ke_aload_n rfl dX4_turn_70
theorem eX4_turn_71 : ev X m_X4_turn 71 [a0, a1, a2, a3, a4] (vR r :: st) mem = evb X (fget mem r 4 0) m_X4_turn 74 [a0, a1, a2, a3, a4] st mem := ke_getf rfl dX4_turn_71
theorem eX4_turn_74 : ev X m_X4_turn 74 [a0, a1, a2, a3, a4] (vR r :: st) mem = evb X (fget mem r 0 4) m_X4_turn 77 [a0, a1, a2, a3, a4] st mem := ke_getf rfl dX4_turn_74
theorem eX4_turn_77 : ev X m_X4_turn 77 [a0, vI x, a2, a3, a4] st mem = ev X m_X4_turn 78 [a0, vI x, a2, a3, a4] (vI x :: st) mem := ke_iload_n rfl dX4_turn_77
theorem eX4_turn_78 : ev X m_X4_turn 78 [a0, a1, a2, a3, a4] (vI x :: vR r :: st) mem = evb X (aget mem r x) m_X4_turn 79 [a0, a1, a2, a3, a4] st mem := ke_iaload dX4_turn_78
theorem eX4_turn_79 : ev X m_X4_turn 79 [a0, a1, a2, a3, a4] (vI y :: vI x :: st) mem = ev X m_X4_turn 80 [a0, a1, a2, a3, a4] (vI (w32 (x + y)) :: st) mem := ke_iadd dX4_turn_79
theorem eX4_turn_80 : ev X m_X4_turn 80 [a0, a1, a2, a3, a4] (vI x :: st) mem = ev X m_X4_turn 82 [a0, a1, a2, a3, vI x] st mem := ke_istore (Nat.le_of_ble_eq_true rfl) rfl dX4_turn_80
theorem eX4_turn_82 : ev X m_X4_turn 82 [vR r, a1, a2, a3, a4] st mem = ev X m_X4_turn 83 [vR r, a1, a2, a3, a4] (vR r :: st) mem := ke_aload_n rfl dX4_turn_82
theorem eX4_turn_83 : ev X m_X4_turn 83 [a0, a1, a2, a3, a4] (vR r :: st) mem = evb X (fget mem r 4 0) m_X4_turn 86 [a0, a1, a2, a3, a4] st mem := ke_getf rfl dX4_turn_83
theorem eX4_turn_86 : ev X m_X4_turn 86 [a0, a1, a2, a3, a4] (vR r :: st) mem = evb X (fget mem r 0 3) m_X4_turn 89 [a0, a1, a2, a3, a4] st mem := ke_getf rfl dX4_turn_86
theorem eX4_turn_89 : ev X m_X4_turn 89 [a0, vI x, a2, a3, a4] st mem = ev X m_X4_turn 90 [a0, vI x, a2, a3, a4] (vI x :: st) mem := ke_iload_n rfl dX4_turn_89
theorem eX4_turn_90 : ev X m_X4_turn 90 [a0, a1, vI x, a3, a4] st mem = ev X m_X4_turn 91 [a0, a1, vI x, a3, a4] (vI x :: st) mem := ke_iload_n rfl dX4_turn_90
theorem eX4_turn_91 : ev X m_X4_turn 91 [a0, a1, a2, a3, a4] (vI y :: vI x :: vR r :: st) mem = evm X (aput mem r x y) m_X4_turn 92 [a0, a1, a2, a3, a4] st := ke_iastore dX4_turn_91
theorem eX4_turn_92 : ev X m_X4_turn 92 [vR r, a1, a2, a3, a4] st mem = ev X m_X4_turn 93 [vR r, a1, a2, a3, a4] (vR r :: st) mem := ke_aload_n rfl dX4_turn_92
theorem eX4_turn_93 : ev X m_X4_turn 93 [a0, a1, a2, a3, a4] (vR r :: st) mem = evb X (fget mem r 4 0) m_X4_turn 96 [a0, a1, a2, a3, a4] st mem := ke_getf rfl dX4_turn_93
theorem eX4_turn_96 : ev X m_X4_turn 96 [a0, a1, a2, a3, a4] (vR r :: st) mem = evb X (fget mem r 0 4) m_X4_turn 99 [a0, a1, a2, a3, a4] st mem := ke_getf rfl dX4_turn_96
theorem eX4_turn_99 : ev X m_X4_turn 99 [a0, vI x, a2, a3, a4] st mem = ev X m_X4_turn 100 [a0, vI x, a2, a3, a4] (vI x :: st) mem := ke_iload_n rfl dX4_turn_99
theorem eX4_turn_100 : ev X m_X4_turn 100 [a0, a1, a2, vI x, a4] st mem = ev X m_X4_turn 101 [a0, a1, a2, vI x, a4] (vI x :: st) mem := ke_iload_n rfl dX4_turn_100
theorem eX4_turn_101 : ev X m_X4_turn 101 [a0, a1, a2, a3, a4] (vI y :: vI x :: vR r :: st) mem = evm X (aput mem r x y) m_X4_turn 102 [a0, a1, a2, a3, a4] st := ke_iastore dX4_turn_101
theorem eX4_turn_102 : ev X m_X4_turn 102 [a0, a1, a2, a3, vI x] st mem = ev X m_X4_turn 104 [a0, a1, a2, a3, vI x] (vI x :: st) mem := ke_iload rfl dX4_turn_102
theorem eX4_turn_104 : ev X m_X4_turn 104 [a0, a1, a2, a3, a4] [vI x] mem = some (some (vI x), mem) := ke_ireturn dX4_turn_104 rfl
theorem eX4_days_0 : ev X m_X4_days 0 [a0, vI x] st mem = ev X m_X4_days 1 [a0, vI x] (vI x :: st) mem := ke_iload_n rfl dX4_days_0
theorem eX4_days_1 : ev X m_X4_days 1 [a0, a1] st mem = ev X m_X4_days 2 [a0, a1] (vI 1 :: st) mem := ke_iconst (by decide) dX4_days_1
theorem eX4_days_2 : ev X m_X4_days 2 [a0, a1] (vI y :: vI x :: st) mem = if x < y then ev X m_X4_days 5 [a0, a1] st mem else ev X m_X4_days 12 [a0, a1] st mem := ke_icmp_ge dX4_days_2 rfl
theorem eX4_days_5 : ev X m_X4_days 5 [vR r, a1] st mem = ev X m_X4_days 6 [vR r, a1] (vR r :: st) mem := ke_aload_n rfl dX4_days_5
theorem eX4_days_6 : ev X m_X4_days 6 [a0, a1] st mem = ev X m_X4_days 8 [a0, a1] (vI (-4) :: st) mem := ke_bipush (by decide) dX4_days_6
theorem eX4_days_8 : ev X m_X4_days 8 [a0, a1] (vI n0 :: vR r :: []) mem = evc X (gR mem r 4 (ev X m_X4_refuse 0 [vR r, vI n0] [] mem)) m_X4_days 11 [a0, a1] [] := ke_callV (m' := m_X4_refuse) (as := [vI n0]) (n := 1) (rest := []) dX4_days_8 rfl rfl rfl rfl rfl rfl (Nat.le_of_ble_eq_true rfl) (Nat.le_of_ble_eq_true rfl) (Nat.le_of_ble_eq_true rfl) rfl
theorem eX4_days_11 : ev X m_X4_days 11 [a0, a1] [vI x] mem = some (some (vI x), mem) := ke_ireturn dX4_days_11 rfl
theorem eX4_days_12 : ev X m_X4_days 12 [a0, vI x] st mem = ev X m_X4_days 13 [a0, vI x] (vI x :: st) mem := ke_iload_n rfl dX4_days_12
theorem eX4_days_13 : ev X m_X4_days 13 [a0, a1] st mem = ev X m_X4_days 15 [a0, a1] (vI 60 :: st) mem := ke_bipush (by decide) dX4_days_13
theorem eX4_days_15 : ev X m_X4_days 15 [a0, a1] (vI y :: vI x :: st) mem = if y < x then ev X m_X4_days 33 [a0, a1] st mem else ev X m_X4_days 18 [a0, a1] st mem := ke_icmp_gt dX4_days_15 rfl
theorem eX4_days_18 : ev X m_X4_days 18 [vR r, a1] st mem = ev X m_X4_days 19 [vR r, a1] (vR r :: st) mem := ke_aload_n rfl dX4_days_18
theorem eX4_days_19 : ev X m_X4_days 19 [a0, a1] (vR r :: st) mem = evb X (fget mem r 4 0) m_X4_days 22 [a0, a1] st mem := ke_getf rfl dX4_days_19
theorem eX4_days_22 : ev X m_X4_days 22 [a0, a1] (vR r :: st) mem = evb X (fget mem r 0 2) m_X4_days 25 [a0, a1] st mem := ke_getf rfl dX4_days_22
theorem eX4_days_25 : ev X m_X4_days 25 [a0, vI x] st mem = ev X m_X4_days 26 [a0, vI x] (vI x :: st) mem := ke_iload_n rfl dX4_days_25
theorem eX4_days_26 : ev X m_X4_days 26 [a0, a1] (vI y :: vI x :: st) mem = ev X m_X4_days 27 [a0, a1] (vI (w32 (x + y)) :: st) mem := ke_iadd dX4_days_26
theorem eX4_days_27 : ev X m_X4_days 27 [a0, a1] st mem = ev X m_X4_days 30 [a0, a1] (vI 999 :: st) mem := ke_sipush (by decide) dX4_days_27
theorem eX4_days_30 : ev X m_X4_days 30 [a0, a1] (vI y :: vI x :: st) mem = if y < x then ev X m_X4_days 33 [a0, a1] st mem else ev X m_X4_days 40 [a0, a1] st mem := ke_icmp_le dX4_days_30 rfl
theorem eX4_days_33 : ev X m_X4_days 33 [vR r, a1] st mem = ev X m_X4_days 34 [vR r, a1] (vR r :: st) mem := ke_aload_n rfl dX4_days_33
theorem eX4_days_34 : ev X m_X4_days 34 [a0, a1] st mem = ev X m_X4_days 36 [a0, a1] (vI (-6) :: st) mem := ke_bipush (by decide) dX4_days_34
theorem eX4_days_36 : ev X m_X4_days 36 [a0, a1] (vI n0 :: vR r :: []) mem = evc X (gR mem r 4 (ev X m_X4_refuse 0 [vR r, vI n0] [] mem)) m_X4_days 39 [a0, a1] [] := ke_callV (m' := m_X4_refuse) (as := [vI n0]) (n := 1) (rest := []) dX4_days_36 rfl rfl rfl rfl rfl rfl (Nat.le_of_ble_eq_true rfl) (Nat.le_of_ble_eq_true rfl) (Nat.le_of_ble_eq_true rfl) rfl
theorem eX4_days_39 : ev X m_X4_days 39 [a0, a1] [vI x] mem = some (some (vI x), mem) := ke_ireturn dX4_days_39 rfl
theorem eX4_days_40 : ev X m_X4_days 40 [vR r, a1] st mem = ev X m_X4_days 41 [vR r, a1] (vR r :: st) mem := ke_aload_n rfl dX4_days_40
theorem eX4_days_41 : ev X m_X4_days 41 [a0, a1] (vR r :: st) mem = evb X (fget mem r 4 0) m_X4_days 44 [a0, a1] st mem := ke_getf rfl dX4_days_41
theorem eX4_days_44 : ev X m_X4_days 44 [a0, vI x] st mem = ev X m_X4_days 45 [a0, vI x] (vI x :: st) mem := ke_iload_n rfl dX4_days_44
theorem eX4_days_45 : ev X m_X4_days 45 [a0, a1] (vI n0 :: vR r :: []) mem = evc X (gR mem r 0 (ev X m_X0_passDays 0 [vR r, vI n0, vS] [] mem)) m_X4_days 48 [a0, a1] [] := ke_callV (m' := m_X0_passDays) (as := [vI n0]) (n := 1) (rest := []) dX4_days_45 rfl rfl rfl rfl rfl rfl (Nat.le_of_ble_eq_true rfl) (Nat.le_of_ble_eq_true rfl) (Nat.le_of_ble_eq_true rfl) rfl
theorem eX4_days_48 : ev X m_X4_days 48 [vR r, a1] st mem = ev X m_X4_days 49 [vR r, a1] (vR r :: st) mem := ke_aload_n rfl dX4_days_48
theorem eX4_days_49 : ev X m_X4_days 49 [a0, a1] (vR r :: st) mem = evb X (fget mem r 4 0) m_X4_days 52 [a0, a1] st mem := ke_getf rfl dX4_days_49
theorem eX4_days_52 : ev X m_X4_days 52 [a0, a1] (vR r :: []) mem = evc X (gR mem r 0 (ev X m_X0_brought 0 [vR r, vS, vS] [] mem)) m_X4_days 55 [a0, a1] [] := ke_callV (m' := m_X0_brought) (as := []) (n := 0) (rest := []) dX4_days_52 rfl rfl rfl rfl rfl rfl (Nat.le_of_ble_eq_true rfl) (Nat.le_of_ble_eq_true rfl) (Nat.le_of_ble_eq_true rfl) rfl
theorem eX4_days_55 : ev X m_X4_days 55 [a0, a1] [vI x] mem = some (some (vI x), mem) := ke_ireturn dX4_days_55 rfl
theorem eX0_brought_0 : ev X m_X0_brought 0 [a0, a1, a2] st mem = ev X m_X0_brought 1 [a0, a1, a2] (vI 0 :: st) mem := ke_iconst (by decide) dX0_brought_0
theorem eX0_brought_1 : ev X m_X0_brought 1 [a0, a1, a2] (vI x :: st) mem = ev X m_X0_brought 2 [a0, vI x, a2] st mem := ke_istore_n (Nat.le_of_ble_eq_true rfl) rfl dX0_brought_1
theorem eX0_brought_2 : ev X m_X0_brought 2 [a0, a1, a2] st mem = ev X m_X0_brought 3 [a0, a1, a2] (vI 0 :: st) mem := ke_iconst (by decide) dX0_brought_2
theorem eX0_brought_3 : ev X m_X0_brought 3 [a0, a1, a2] (vI x :: st) mem = ev X m_X0_brought 4 [a0, a1, vI x] st mem := ke_istore_n (Nat.le_of_ble_eq_true rfl) rfl dX0_brought_3
theorem eX0_brought_4 : ev X m_X0_brought 4 [a0, a1, vI x] st mem = ev X m_X0_brought 5 [a0, a1, vI x] (vI x :: st) mem := ke_iload_n rfl dX0_brought_4
theorem eX0_brought_5 : ev X m_X0_brought 5 [vR r, a1, a2] st mem = ev X m_X0_brought 6 [vR r, a1, a2] (vR r :: st) mem := ke_aload_n rfl dX0_brought_5
theorem eX0_brought_6 : ev X m_X0_brought 6 [a0, a1, a2] (vR r :: st) mem = evb X (fget mem r 0 1) m_X0_brought 9 [a0, a1, a2] st mem := ke_getf rfl dX0_brought_6
theorem eX0_brought_9 : ev X m_X0_brought 9 [a0, a1, a2] (vI y :: vI x :: st) mem = if x < y then ev X m_X0_brought 12 [a0, a1, a2] st mem else ev X m_X0_brought 31 [a0, a1, a2] st mem := ke_icmp_ge dX0_brought_9 rfl
theorem eX0_brought_12 : ev X m_X0_brought 12 [vR r, a1, a2] st mem = ev X m_X0_brought 13 [vR r, a1, a2] (vR r :: st) mem := ke_aload_n rfl dX0_brought_12
theorem eX0_brought_13 : ev X m_X0_brought 13 [a0, a1, a2] (vR r :: st) mem = evb X (fget mem r 0 10) m_X0_brought 16 [a0, a1, a2] st mem := ke_getf rfl dX0_brought_13
theorem eX0_brought_16 : ev X m_X0_brought 16 [a0, a1, vI x] st mem = ev X m_X0_brought 17 [a0, a1, vI x] (vI x :: st) mem := ke_iload_n rfl dX0_brought_16
theorem eX0_brought_17 : ev X m_X0_brought 17 [a0, a1, a2] (vI x :: vR r :: st) mem = evb X (aget mem r x) m_X0_brought 18 [a0, a1, a2] st mem := ke_iaload dX0_brought_17
theorem eX0_brought_18 : ev X m_X0_brought 18 [a0, a1, a2] st mem = ev X m_X0_brought 19 [a0, a1, a2] (vI 2 :: st) mem := ke_iconst (by decide) dX0_brought_18
theorem eX0_brought_19 : ev X m_X0_brought 19 [a0, a1, a2] (vI y :: vI x :: st) mem = if x = y then ev X m_X0_brought 22 [a0, a1, a2] st mem else ev X m_X0_brought 25 [a0, a1, a2] st mem := ke_icmp_ne dX0_brought_19 rfl
theorem eX0_brought_22 : ev X m_X0_brought 22 [a0, vI x, a2] st mem = ev X m_X0_brought 25 [a0, vI (w32 (x + 1)), a2] st mem := ke_iinc rfl (Nat.le_of_ble_eq_true rfl) rfl dX0_brought_22
theorem eX0_brought_25 : ev X m_X0_brought 25 [a0, a1, vI x] st mem = ev X m_X0_brought 28 [a0, a1, vI (w32 (x + 1))] st mem := ke_iinc rfl (Nat.le_of_ble_eq_true rfl) rfl dX0_brought_25
theorem eX0_brought_28 : ev X m_X0_brought 28 [a0, a1, a2] st mem = ev X m_X0_brought 4 [a0, a1, a2] st mem := ke_goto dX0_brought_28 rfl
theorem eX0_brought_31 : ev X m_X0_brought 31 [a0, vI x, a2] st mem = ev X m_X0_brought 32 [a0, vI x, a2] (vI x :: st) mem := ke_iload_n rfl dX0_brought_31
theorem eX0_brought_32 : ev X m_X0_brought 32 [a0, a1, a2] [vI x] mem = some (some (vI x), mem) := ke_ireturn dX0_brought_32 rfl
theorem eX4_parcelThen_0 : ev X m_X4_parcelThen 0 [vR r, a1, a2, a3, a4] st mem = ev X m_X4_parcelThen 1 [vR r, a1, a2, a3, a4] (vR r :: st) mem := ke_aload_n rfl dX4_parcelThen_0
theorem eX4_parcelThen_1 : ev X m_X4_parcelThen 1 [a0, a1, a2, a3, a4] (vR r :: st) mem = evb X (fget mem r 4 0) m_X4_parcelThen 4 [a0, a1, a2, a3, a4] st mem := ke_getf rfl dX4_parcelThen_1
theorem eX4_parcelThen_4 : ev X m_X4_parcelThen 4 [a0, vI x, a2, a3, a4] st mem = ev X m_X4_parcelThen 5 [a0, vI x, a2, a3, a4] (vI x :: st) mem := ke_iload_n rfl dX4_parcelThen_4
theorem eX4_parcelThen_5 : ev X m_X4_parcelThen 5 [a0, a1, a2, a3, a4] (vI n0 :: vR r :: []) mem = evc X (gR mem r 0 (ev X m_X0_hasParcel 0 [vR r, vI n0] [] mem)) m_X4_parcelThen 8 [a0, a1, a2, a3, a4] [] := ke_callV (m' := m_X0_hasParcel) (as := [vI n0]) (n := 1) (rest := []) dX4_parcelThen_5 rfl rfl rfl rfl rfl rfl (Nat.le_of_ble_eq_true rfl) (Nat.le_of_ble_eq_true rfl) (Nat.le_of_ble_eq_true rfl) rfl
theorem eX4_parcelThen_8 : ev X m_X4_parcelThen 8 [a0, a1, a2, a3, a4] (vI x :: st) mem = if x = 0 then ev X m_X4_parcelThen 11 [a0, a1, a2, a3, a4] st mem else ev X m_X4_parcelThen 17 [a0, a1, a2, a3, a4] st mem := ke_if_ne dX4_parcelThen_8 rfl
theorem eX4_parcelThen_11 : ev X m_X4_parcelThen 11 [vR r, a1, a2, a3, a4] st mem = ev X m_X4_parcelThen 12 [vR r, a1, a2, a3, a4] (vR r :: st) mem := ke_aload_n rfl dX4_parcelThen_11
theorem eX4_parcelThen_12 : ev X m_X4_parcelThen 12 [a0, a1, a2, a3, a4] st mem = ev X m_X4_parcelThen 13 [a0, a1, a2, a3, a4] (vI (-1) :: st) mem := ke_iconst (by decide) dX4_parcelThen_12
theorem eX4_parcelThen_13 : ev X m_X4_parcelThen 13 [a0, a1, a2, a3, a4] (vI n0 :: vR r :: []) mem = evc X (gR mem r 4 (ev X m_X4_refuse 0 [vR r, vI n0] [] mem)) m_X4_parcelThen 16 [a0, a1, a2, a3, a4] [] := ke_callV (m' := m_X4_refuse) (as := [vI n0]) (n := 1) (rest := []) dX4_parcelThen_13 rfl rfl rfl rfl rfl rfl (Nat.le_of_ble_eq_true rfl) (Nat.le_of_ble_eq_true rfl) (Nat.le_of_ble_eq_true rfl) rfl
theorem eX4_parcelThen_16 : ev X m_X4_parcelThen 16 [a0, a1, a2, a3, a4] [vI x] mem = some (some (vI x), mem) := ke_ireturn dX4_parcelThen_16 rfl
theorem eX4_parcelThen_17 : ev X m_X4_parcelThen 17 [a0, a1, vI x, a3, a4] st mem = ev X m_X4_parcelThen 18 [a0, a1, vI x, a3, a4] (vI x :: st) mem := ke_iload_n rfl dX4_parcelThen_17
theorem eX4_parcelThen_18 : ev X m_X4_parcelThen 18 [a0, a1, a2, a3, a4] (vI x :: st) mem = if x < 0 then ev X m_X4_parcelThen 21 [a0, a1, a2, a3, a4] st mem else ev X m_X4_parcelThen 28 [a0, a1, a2, a3, a4] st mem := ke_if_ge dX4_parcelThen_18 rfl
theorem eX4_parcelThen_21 : ev X m_X4_parcelThen 21 [vR r, a1, a2, a3, a4] st mem = ev X m_X4_parcelThen 22 [vR r, a1, a2, a3, a4] (vR r :: st) mem := ke_aload_n rfl dX4_parcelThen_21
theorem eX4_parcelThen_22 : ev X m_X4_parcelThen 22 [a0, a1, a2, a3, a4] st mem = ev X m_X4_parcelThen 24 [a0, a1, a2, a3, a4] (vI (-4) :: st) mem := ke_bipush (by decide) dX4_parcelThen_22
theorem eX4_parcelThen_24 : ev X m_X4_parcelThen 24 [a0, a1, a2, a3, a4] (vI n0 :: vR r :: []) mem = evc X (gR mem r 4 (ev X m_X4_refuse 0 [vR r, vI n0] [] mem)) m_X4_parcelThen 27 [a0, a1, a2, a3, a4] [] := ke_callV (m' := m_X4_refuse) (as := [vI n0]) (n := 1) (rest := []) dX4_parcelThen_24 rfl rfl rfl rfl rfl rfl (Nat.le_of_ble_eq_true rfl) (Nat.le_of_ble_eq_true rfl) (Nat.le_of_ble_eq_true rfl) rfl
theorem eX4_parcelThen_27 : ev X m_X4_parcelThen 27 [a0, a1, a2, a3, a4] [vI x] mem = some (some (vI x), mem) := ke_ireturn dX4_parcelThen_27 rfl
theorem eX4_parcelThen_28 : ev X m_X4_parcelThen 28 [a0, a1, vI x, a3, a4] st mem = ev X m_X4_parcelThen 29 [a0, a1, vI x, a3, a4] (vI x :: st) mem := ke_iload_n rfl dX4_parcelThen_28
theorem eX4_parcelThen_29 : ev X m_X4_parcelThen 29 [a0, a1, a2, a3, a4] st mem = ev X m_X4_parcelThen 31 [a0, a1, a2, a3, a4] (vI 99 :: st) mem := ke_bipush (by decide) dX4_parcelThen_29
theorem eX4_parcelThen_31 : ev X m_X4_parcelThen 31 [a0, a1, a2, a3, a4] (vI y :: vI x :: st) mem = if y < x then ev X m_X4_parcelThen 34 [a0, a1, a2, a3, a4] st mem else ev X m_X4_parcelThen 41 [a0, a1, a2, a3, a4] st mem := ke_icmp_le dX4_parcelThen_31 rfl
theorem eX4_parcelThen_34 : ev X m_X4_parcelThen 34 [vR r, a1, a2, a3, a4] st mem = ev X m_X4_parcelThen 35 [vR r, a1, a2, a3, a4] (vR r :: st) mem := ke_aload_n rfl dX4_parcelThen_34
theorem eX4_parcelThen_35 : ev X m_X4_parcelThen 35 [a0, a1, a2, a3, a4] st mem = ev X m_X4_parcelThen 37 [a0, a1, a2, a3, a4] (vI (-6) :: st) mem := ke_bipush (by decide) dX4_parcelThen_35
theorem eX4_parcelThen_37 : ev X m_X4_parcelThen 37 [a0, a1, a2, a3, a4] (vI n0 :: vR r :: []) mem = evc X (gR mem r 4 (ev X m_X4_refuse 0 [vR r, vI n0] [] mem)) m_X4_parcelThen 40 [a0, a1, a2, a3, a4] [] := ke_callV (m' := m_X4_refuse) (as := [vI n0]) (n := 1) (rest := []) dX4_parcelThen_37 rfl rfl rfl rfl rfl rfl (Nat.le_of_ble_eq_true rfl) (Nat.le_of_ble_eq_true rfl) (Nat.le_of_ble_eq_true rfl) rfl
theorem eX4_parcelThen_40 : ev X m_X4_parcelThen 40 [a0, a1, a2, a3, a4] [vI x] mem = some (some (vI x), mem) := ke_ireturn dX4_parcelThen_40 rfl
theorem eX4_parcelThen_41 : ev X m_X4_parcelThen 41 [a0, a1, a2, vI x, a4] st mem = ev X m_X4_parcelThen 42 [a0, a1, a2, vI x, a4] (vI x :: st) mem := ke_iload_n rfl dX4_parcelThen_41
theorem eX4_parcelThen_42 : ev X m_X4_parcelThen 42 [a0, a1, a2, a3, a4] (vI x :: st) mem = if x < 0 then ev X m_X4_parcelThen 50 [a0, a1, a2, a3, a4] st mem else ev X m_X4_parcelThen 45 [a0, a1, a2, a3, a4] st mem := ke_if_lt dX4_parcelThen_42 rfl
theorem eX4_parcelThen_45 : ev X m_X4_parcelThen 45 [a0, a1, a2, vI x, a4] st mem = ev X m_X4_parcelThen 46 [a0, a1, a2, vI x, a4] (vI x :: st) mem := ke_iload_n rfl dX4_parcelThen_45
theorem eX4_parcelThen_46 : ev X m_X4_parcelThen 46 [a0, a1, a2, a3, a4] st mem = ev X m_X4_parcelThen 47 [a0, a1, a2, a3, a4] (vI 1 :: st) mem := ke_iconst (by decide) dX4_parcelThen_46
theorem eX4_parcelThen_47 : ev X m_X4_parcelThen 47 [a0, a1, a2, a3, a4] (vI y :: vI x :: st) mem = if y < x then ev X m_X4_parcelThen 50 [a0, a1, a2, a3, a4] st mem else ev X m_X4_parcelThen 57 [a0, a1, a2, a3, a4] st mem := ke_icmp_le dX4_parcelThen_47 rfl
theorem eX4_parcelThen_50 : ev X m_X4_parcelThen 50 [vR r, a1, a2, a3, a4] st mem = ev X m_X4_parcelThen 51 [vR r, a1, a2, a3, a4] (vR r :: st) mem := ke_aload_n rfl dX4_parcelThen_50
theorem eX4_parcelThen_51 : ev X m_X4_parcelThen 51 [a0, a1, a2, a3, a4] st mem = ev X m_X4_parcelThen 53 [a0, a1, a2, a3, a4] (vI (-2) :: st) mem := ke_bipush (by decide) dX4_parcelThen_51
theorem eX4_parcelThen_53 : ev X m_X4_parcelThen 53 [a0, a1, a2, a3, a4] (vI n0 :: vR r :: []) mem = evc X (gR mem r 4 (ev X m_X4_refuse 0 [vR r, vI n0] [] mem)) m_X4_parcelThen 56 [a0, a1, a2, a3, a4] [] := ke_callV (m' := m_X4_refuse) (as := [vI n0]) (n := 1) (rest := []) dX4_parcelThen_53 rfl rfl rfl rfl rfl rfl (Nat.le_of_ble_eq_true rfl) (Nat.le_of_ble_eq_true rfl) (Nat.le_of_ble_eq_true rfl) rfl
theorem eX4_parcelThen_56 : ev X m_X4_parcelThen 56 [a0, a1, a2, a3, a4] [vI x] mem = some (some (vI x), mem) := ke_ireturn dX4_parcelThen_56 rfl
theorem eX4_parcelThen_57 : ev X m_X4_parcelThen 57 [vR r, a1, a2, a3, a4] st mem = ev X m_X4_parcelThen 58 [vR r, a1, a2, a3, a4] (vR r :: st) mem := ke_aload_n rfl dX4_parcelThen_57
theorem eX4_parcelThen_58 : ev X m_X4_parcelThen 58 [a0, a1, a2, a3, a4] (vR r :: st) mem = evb X (fget mem r 4 3) m_X4_parcelThen 61 [a0, a1, a2, a3, a4] st mem := ke_getf rfl dX4_parcelThen_58
theorem eX4_parcelThen_61 : ev X m_X4_parcelThen 61 [vR r, a1, a2, a3, a4] st mem = ev X m_X4_parcelThen 62 [vR r, a1, a2, a3, a4] (vR r :: st) mem := ke_aload_n rfl dX4_parcelThen_61
theorem eX4_parcelThen_62 : ev X m_X4_parcelThen 62 [a0, a1, a2, a3, a4] (vR r :: st) mem = evb X (fget mem r 4 0) m_X4_parcelThen 65 [a0, a1, a2, a3, a4] st mem := ke_getf rfl dX4_parcelThen_62
theorem eX4_parcelThen_65 : ev X m_X4_parcelThen 65 [a0, a1, vI x, a3, a4] st mem = ev X m_X4_parcelThen 66 [a0, a1, vI x, a3, a4] (vI x :: st) mem := ke_iload_n rfl dX4_parcelThen_65
theorem eX4_parcelThen_66 : ev X m_X4_parcelThen 66 [a0, a1, a2, a3, a4] (vI n1 :: vR r0 :: vR r :: []) mem = evc X (gR mem r 3 (ev X m_X3_behind 0 [vR r, vR r0, vI n1] [] mem)) m_X4_parcelThen 69 [a0, a1, a2, a3, a4] [] := ke_callV (m' := m_X3_behind) (as := [vR r0, vI n1]) (n := 2) (rest := []) dX4_parcelThen_66 rfl rfl rfl rfl rfl rfl (Nat.le_of_ble_eq_true rfl) (Nat.le_of_ble_eq_true rfl) (Nat.le_of_ble_eq_true rfl) rfl
theorem eX4_parcelThen_69 : ev X m_X4_parcelThen 69 [a0, a1, a2, a3, a4] (vR r :: st) mem = ev X m_X4_parcelThen 71 [a0, a1, a2, a3, vR r] st mem := ke_astore (Nat.le_of_ble_eq_true rfl) rfl dX4_parcelThen_69
theorem eX4_parcelThen_71 : ev X m_X4_parcelThen 71 [a0, a1, a2, vI x, a4] st mem = ev X m_X4_parcelThen 72 [a0, a1, a2, vI x, a4] (vI x :: st) mem := ke_iload_n rfl dX4_parcelThen_71
theorem eX4_parcelThen_72 : ev X m_X4_parcelThen 72 [a0, a1, a2, a3, a4] (vI x :: st) mem = if x = 0 then ev X m_X4_parcelThen 75 [a0, a1, a2, a3, a4] st mem else ev X m_X4_parcelThen 84 [a0, a1, a2, a3, a4] st mem := ke_if_ne dX4_parcelThen_72 rfl
theorem eX4_parcelThen_75 : ev X m_X4_parcelThen 75 [a0, a1, a2, a3, vR r] st mem = ev X m_X4_parcelThen 77 [a0, a1, a2, a3, vR r] (vR r :: st) mem := ke_aload rfl dX4_parcelThen_75
theorem eX4_parcelThen_77 : ev X m_X4_parcelThen 77 [a0, vI x, a2, a3, a4] st mem = ev X m_X4_parcelThen 78 [a0, vI x, a2, a3, a4] (vI x :: st) mem := ke_iload_n rfl dX4_parcelThen_77
theorem eX4_parcelThen_78 : ev X m_X4_parcelThen 78 [a0, a1, a2, a3, a4] (vI n0 :: vR r :: []) mem = evc X (gR mem r 0 (ev X m_X0_stateOf 0 [vR r, vI n0] [] mem)) m_X4_parcelThen 81 [a0, a1, a2, a3, a4] [] := ke_callV (m' := m_X0_stateOf) (as := [vI n0]) (n := 1) (rest := []) dX4_parcelThen_78 rfl rfl rfl rfl rfl rfl (Nat.le_of_ble_eq_true rfl) (Nat.le_of_ble_eq_true rfl) (Nat.le_of_ble_eq_true rfl) rfl
theorem eX4_parcelThen_81 : ev X m_X4_parcelThen 81 [a0, a1, a2, a3, a4] st mem = ev X m_X4_parcelThen 90 [a0, a1, a2, a3, a4] st mem := ke_goto dX4_parcelThen_81 rfl
theorem eX4_parcelThen_84 : ev X m_X4_parcelThen 84 [a0, a1, a2, a3, vR r] st mem = ev X m_X4_parcelThen 86 [a0, a1, a2, a3, vR r] (vR r :: st) mem := ke_aload rfl dX4_parcelThen_84
theorem eX4_parcelThen_86 : ev X m_X4_parcelThen 86 [a0, vI x, a2, a3, a4] st mem = ev X m_X4_parcelThen 87 [a0, vI x, a2, a3, a4] (vI x :: st) mem := ke_iload_n rfl dX4_parcelThen_86
theorem eX4_parcelThen_87 : ev X m_X4_parcelThen 87 [a0, a1, a2, a3, a4] (vI n0 :: vR r :: []) mem = evc X (gR mem r 0 (ev X m_X0_carrierOf 0 [vR r, vI n0] [] mem)) m_X4_parcelThen 90 [a0, a1, a2, a3, a4] [] := ke_callV (m' := m_X0_carrierOf) (as := [vI n0]) (n := 1) (rest := []) dX4_parcelThen_87 rfl rfl rfl rfl rfl rfl (Nat.le_of_ble_eq_true rfl) (Nat.le_of_ble_eq_true rfl) (Nat.le_of_ble_eq_true rfl) rfl
theorem eX4_parcelThen_90 : ev X m_X4_parcelThen 90 [a0, a1, a2, a3, a4] [vI x] mem = some (some (vI x), mem) := ke_ireturn dX4_parcelThen_90 rfl
theorem eX0_stateOf_0 : ev X m_X0_stateOf 0 [vR r, a1] st mem = ev X m_X0_stateOf 1 [vR r, a1] (vR r :: st) mem := ke_aload_n rfl dX0_stateOf_0
theorem eX0_stateOf_1 : ev X m_X0_stateOf 1 [a0, vI x] st mem = ev X m_X0_stateOf 2 [a0, vI x] (vI x :: st) mem := ke_iload_n rfl dX0_stateOf_1
theorem eX0_stateOf_2 : ev X m_X0_stateOf 2 [a0, a1] (vI n0 :: vR r :: []) mem = evc X (gR mem r 0 (ev X m_X0_hasParcel 0 [vR r, vI n0] [] mem)) m_X0_stateOf 5 [a0, a1] [] := ke_callV (m' := m_X0_hasParcel) (as := [vI n0]) (n := 1) (rest := []) dX0_stateOf_2 rfl rfl rfl rfl rfl rfl (Nat.le_of_ble_eq_true rfl) (Nat.le_of_ble_eq_true rfl) (Nat.le_of_ble_eq_true rfl) rfl
theorem eX0_stateOf_5 : ev X m_X0_stateOf 5 [a0, a1] (vI x :: st) mem = if x = 0 then ev X m_X0_stateOf 17 [a0, a1] st mem else ev X m_X0_stateOf 8 [a0, a1] st mem := ke_if_eq dX0_stateOf_5 rfl
theorem eX0_stateOf_8 : ev X m_X0_stateOf 8 [vR r, a1] st mem = ev X m_X0_stateOf 9 [vR r, a1] (vR r :: st) mem := ke_aload_n rfl dX0_stateOf_8
theorem eX0_stateOf_9 : ev X m_X0_stateOf 9 [a0, a1] (vR r :: st) mem = evb X (fget mem r 0 10) m_X0_stateOf 12 [a0, a1] st mem := ke_getf rfl dX0_stateOf_9
theorem eX0_stateOf_12 : ev X m_X0_stateOf 12 [a0, vI x] st mem = ev X m_X0_stateOf 13 [a0, vI x] (vI x :: st) mem := ke_iload_n rfl dX0_stateOf_12
theorem eX0_stateOf_13 : ev X m_X0_stateOf 13 [a0, a1] (vI x :: vR r :: st) mem = evb X (aget mem r x) m_X0_stateOf 14 [a0, a1] st mem := ke_iaload dX0_stateOf_13
theorem eX0_stateOf_14 : ev X m_X0_stateOf 14 [a0, a1] st mem = ev X m_X0_stateOf 18 [a0, a1] st mem := ke_goto dX0_stateOf_14 rfl
theorem eX0_stateOf_17 : ev X m_X0_stateOf 17 [a0, a1] st mem = ev X m_X0_stateOf 18 [a0, a1] (vI 0 :: st) mem := ke_iconst (by decide) dX0_stateOf_17
theorem eX0_stateOf_18 : ev X m_X0_stateOf 18 [a0, a1] [vI x] mem = some (some (vI x), mem) := ke_ireturn dX0_stateOf_18 rfl
theorem eX0_carrierOf_0 : ev X m_X0_carrierOf 0 [vR r, a1] st mem = ev X m_X0_carrierOf 1 [vR r, a1] (vR r :: st) mem := ke_aload_n rfl dX0_carrierOf_0
theorem eX0_carrierOf_1 : ev X m_X0_carrierOf 1 [a0, vI x] st mem = ev X m_X0_carrierOf 2 [a0, vI x] (vI x :: st) mem := ke_iload_n rfl dX0_carrierOf_1
theorem eX0_carrierOf_2 : ev X m_X0_carrierOf 2 [a0, a1] (vI n0 :: vR r :: []) mem = evc X (gR mem r 0 (ev X m_X0_hasParcel 0 [vR r, vI n0] [] mem)) m_X0_carrierOf 5 [a0, a1] [] := ke_callV (m' := m_X0_hasParcel) (as := [vI n0]) (n := 1) (rest := []) dX0_carrierOf_2 rfl rfl rfl rfl rfl rfl (Nat.le_of_ble_eq_true rfl) (Nat.le_of_ble_eq_true rfl) (Nat.le_of_ble_eq_true rfl) rfl
theorem eX0_carrierOf_5 : ev X m_X0_carrierOf 5 [a0, a1] (vI x :: st) mem = if x = 0 then ev X m_X0_carrierOf 17 [a0, a1] st mem else ev X m_X0_carrierOf 8 [a0, a1] st mem := ke_if_eq dX0_carrierOf_5 rfl
theorem eX0_carrierOf_8 : ev X m_X0_carrierOf 8 [vR r, a1] st mem = ev X m_X0_carrierOf 9 [vR r, a1] (vR r :: st) mem := ke_aload_n rfl dX0_carrierOf_8
theorem eX0_carrierOf_9 : ev X m_X0_carrierOf 9 [a0, a1] (vR r :: st) mem = evb X (fget mem r 0 11) m_X0_carrierOf 12 [a0, a1] st mem := ke_getf rfl dX0_carrierOf_9
theorem eX0_carrierOf_12 : ev X m_X0_carrierOf 12 [a0, vI x] st mem = ev X m_X0_carrierOf 13 [a0, vI x] (vI x :: st) mem := ke_iload_n rfl dX0_carrierOf_12
theorem eX0_carrierOf_13 : ev X m_X0_carrierOf 13 [a0, a1] (vI x :: vR r :: st) mem = evb X (aget mem r x) m_X0_carrierOf 14 [a0, a1] st mem := ke_iaload dX0_carrierOf_13
theorem eX0_carrierOf_14 : ev X m_X0_carrierOf 14 [a0, a1] st mem = ev X m_X0_carrierOf 19 [a0, a1] st mem := ke_goto dX0_carrierOf_14 rfl
theorem eX0_carrierOf_17 : ev X m_X0_carrierOf 17 [a0, a1] st mem = ev X m_X0_carrierOf 19 [a0, a1] (vI (-9) :: st) mem := ke_bipush (by decide) dX0_carrierOf_17
theorem eX0_carrierOf_19 : ev X m_X0_carrierOf 19 [a0, a1] [vI x] mem = some (some (vI x), mem) := ke_ireturn dX0_carrierOf_19 rfl
theorem eX4_hateThen_0 : ev X m_X4_hateThen 0 [vR r, a1, a2, a3] st mem = ev X m_X4_hateThen 1 [vR r, a1, a2, a3] (vR r :: st) mem := ke_aload_n rfl dX4_hateThen_0
theorem eX4_hateThen_1 : ev X m_X4_hateThen 1 [a0, a1, a2, a3] (vR r :: st) mem = evb X (fget mem r 4 0) m_X4_hateThen 4 [a0, a1, a2, a3] st mem := ke_getf rfl dX4_hateThen_1
theorem eX4_hateThen_4 : ev X m_X4_hateThen 4 [a0, vI x, a2, a3] st mem = ev X m_X4_hateThen 5 [a0, vI x, a2, a3] (vI x :: st) mem := ke_iload_n rfl dX4_hateThen_4
theorem eX4_hateThen_5 : ev X m_X4_hateThen 5 [a0, a1, vI x, a3] st mem = ev X m_X4_hateThen 6 [a0, a1, vI x, a3] (vI x :: st) mem := ke_iload_n rfl dX4_hateThen_5
theorem eX4_hateThen_6 : ev X m_X4_hateThen 6 [a0, a1, a2, a3] (vI n1 :: vI n0 :: vR r :: []) mem = evc X (gR mem r 0 (ev X m_X0_hasPair 0 [vR r, vI n0, vI n1] [] mem)) m_X4_hateThen 9 [a0, a1, a2, a3] [] := ke_callV (m' := m_X0_hasPair) (as := [vI n0, vI n1]) (n := 2) (rest := []) dX4_hateThen_6 rfl rfl rfl rfl rfl rfl (Nat.le_of_ble_eq_true rfl) (Nat.le_of_ble_eq_true rfl) (Nat.le_of_ble_eq_true rfl) rfl
theorem eX4_hateThen_9 : ev X m_X4_hateThen 9 [a0, a1, a2, a3] (vI x :: st) mem = if x = 0 then ev X m_X4_hateThen 12 [a0, a1, a2, a3] st mem else ev X m_X4_hateThen 18 [a0, a1, a2, a3] st mem := ke_if_ne dX4_hateThen_9 rfl
theorem eX4_hateThen_12 : ev X m_X4_hateThen 12 [vR r, a1, a2, a3] st mem = ev X m_X4_hateThen 13 [vR r, a1, a2, a3] (vR r :: st) mem := ke_aload_n rfl dX4_hateThen_12
theorem eX4_hateThen_13 : ev X m_X4_hateThen 13 [a0, a1, a2, a3] st mem = ev X m_X4_hateThen 14 [a0, a1, a2, a3] (vI (-1) :: st) mem := ke_iconst (by decide) dX4_hateThen_13
theorem eX4_hateThen_14 : ev X m_X4_hateThen 14 [a0, a1, a2, a3] (vI n0 :: vR r :: []) mem = evc X (gR mem r 4 (ev X m_X4_refuse 0 [vR r, vI n0] [] mem)) m_X4_hateThen 17 [a0, a1, a2, a3] [] := ke_callV (m' := m_X4_refuse) (as := [vI n0]) (n := 1) (rest := []) dX4_hateThen_14 rfl rfl rfl rfl rfl rfl (Nat.le_of_ble_eq_true rfl) (Nat.le_of_ble_eq_true rfl) (Nat.le_of_ble_eq_true rfl) rfl
theorem eX4_hateThen_17 : ev X m_X4_hateThen 17 [a0, a1, a2, a3] [vI x] mem = some (some (vI x), mem) := ke_ireturn dX4_hateThen_17 rfl
theorem eX4_hateThen_18 : ev X m_X4_hateThen 18 [a0, a1, a2, vI x] st mem = ev X m_X4_hateThen 19 [a0, a1, a2, vI x] (vI x :: st) mem := ke_iload_n rfl dX4_hateThen_18
theorem eX4_hateThen_19 : ev X m_X4_hateThen 19 [a0, a1, a2, a3] (vI x :: st) mem = if x < 0 then ev X m_X4_hateThen 22 [a0, a1, a2, a3] st mem else ev X m_X4_hateThen 29 [a0, a1, a2, a3] st mem := ke_if_ge dX4_hateThen_19 rfl
theorem eX4_hateThen_22 : ev X m_X4_hateThen 22 [vR r, a1, a2, a3] st mem = ev X m_X4_hateThen 23 [vR r, a1, a2, a3] (vR r :: st) mem := ke_aload_n rfl dX4_hateThen_22
theorem eX4_hateThen_23 : ev X m_X4_hateThen 23 [a0, a1, a2, a3] st mem = ev X m_X4_hateThen 25 [a0, a1, a2, a3] (vI (-4) :: st) mem := ke_bipush (by decide) dX4_hateThen_23
theorem eX4_hateThen_25 : ev X m_X4_hateThen 25 [a0, a1, a2, a3] (vI n0 :: vR r :: []) mem = evc X (gR mem r 4 (ev X m_X4_refuse 0 [vR r, vI n0] [] mem)) m_X4_hateThen 28 [a0, a1, a2, a3] [] := ke_callV (m' := m_X4_refuse) (as := [vI n0]) (n := 1) (rest := []) dX4_hateThen_25 rfl rfl rfl rfl rfl rfl (Nat.le_of_ble_eq_true rfl) (Nat.le_of_ble_eq_true rfl) (Nat.le_of_ble_eq_true rfl) rfl
theorem eX4_hateThen_28 : ev X m_X4_hateThen 28 [a0, a1, a2, a3] [vI x] mem = some (some (vI x), mem) := ke_ireturn dX4_hateThen_28 rfl
theorem eX4_hateThen_29 : ev X m_X4_hateThen 29 [a0, a1, a2, vI x] st mem = ev X m_X4_hateThen 30 [a0, a1, a2, vI x] (vI x :: st) mem := ke_iload_n rfl dX4_hateThen_29
theorem eX4_hateThen_30 : ev X m_X4_hateThen 30 [a0, a1, a2, a3] st mem = ev X m_X4_hateThen 32 [a0, a1, a2, a3] (vI 99 :: st) mem := ke_bipush (by decide) dX4_hateThen_30
theorem eX4_hateThen_32 : ev X m_X4_hateThen 32 [a0, a1, a2, a3] (vI y :: vI x :: st) mem = if y < x then ev X m_X4_hateThen 35 [a0, a1, a2, a3] st mem else ev X m_X4_hateThen 42 [a0, a1, a2, a3] st mem := ke_icmp_le dX4_hateThen_32 rfl
theorem eX4_hateThen_35 : ev X m_X4_hateThen 35 [vR r, a1, a2, a3] st mem = ev X m_X4_hateThen 36 [vR r, a1, a2, a3] (vR r :: st) mem := ke_aload_n rfl dX4_hateThen_35
theorem eX4_hateThen_36 : ev X m_X4_hateThen 36 [a0, a1, a2, a3] st mem = ev X m_X4_hateThen 38 [a0, a1, a2, a3] (vI (-6) :: st) mem := ke_bipush (by decide) dX4_hateThen_36
theorem eX4_hateThen_38 : ev X m_X4_hateThen 38 [a0, a1, a2, a3] (vI n0 :: vR r :: []) mem = evc X (gR mem r 4 (ev X m_X4_refuse 0 [vR r, vI n0] [] mem)) m_X4_hateThen 41 [a0, a1, a2, a3] [] := ke_callV (m' := m_X4_refuse) (as := [vI n0]) (n := 1) (rest := []) dX4_hateThen_38 rfl rfl rfl rfl rfl rfl (Nat.le_of_ble_eq_true rfl) (Nat.le_of_ble_eq_true rfl) (Nat.le_of_ble_eq_true rfl) rfl
theorem eX4_hateThen_41 : ev X m_X4_hateThen 41 [a0, a1, a2, a3] [vI x] mem = some (some (vI x), mem) := ke_ireturn dX4_hateThen_41 rfl
theorem eX4_hateThen_42 : ev X m_X4_hateThen 42 [vR r, a1, a2, a3] st mem = ev X m_X4_hateThen 43 [vR r, a1, a2, a3] (vR r :: st) mem := ke_aload_n rfl dX4_hateThen_42
theorem eX4_hateThen_43 : ev X m_X4_hateThen 43 [a0, a1, a2, a3] (vR r :: st) mem = evb X (fget mem r 4 3) m_X4_hateThen 46 [a0, a1, a2, a3] st mem := ke_getf rfl dX4_hateThen_43
theorem eX4_hateThen_46 : ev X m_X4_hateThen 46 [vR r, a1, a2, a3] st mem = ev X m_X4_hateThen 47 [vR r, a1, a2, a3] (vR r :: st) mem := ke_aload_n rfl dX4_hateThen_46
theorem eX4_hateThen_47 : ev X m_X4_hateThen 47 [a0, a1, a2, a3] (vR r :: st) mem = evb X (fget mem r 4 0) m_X4_hateThen 50 [a0, a1, a2, a3] st mem := ke_getf rfl dX4_hateThen_47
theorem eX4_hateThen_50 : ev X m_X4_hateThen 50 [a0, a1, a2, vI x] st mem = ev X m_X4_hateThen 51 [a0, a1, a2, vI x] (vI x :: st) mem := ke_iload_n rfl dX4_hateThen_50
theorem eX4_hateThen_51 : ev X m_X4_hateThen 51 [a0, a1, a2, a3] (vI n1 :: vR r0 :: vR r :: []) mem = evc X (gR mem r 3 (ev X m_X3_behind 0 [vR r, vR r0, vI n1] [] mem)) m_X4_hateThen 54 [a0, a1, a2, a3] [] := ke_callV (m' := m_X3_behind) (as := [vR r0, vI n1]) (n := 2) (rest := []) dX4_hateThen_51 rfl rfl rfl rfl rfl rfl (Nat.le_of_ble_eq_true rfl) (Nat.le_of_ble_eq_true rfl) (Nat.le_of_ble_eq_true rfl) rfl
theorem eX4_hateThen_54 : ev X m_X4_hateThen 54 [a0, vI x, a2, a3] st mem = ev X m_X4_hateThen 55 [a0, vI x, a2, a3] (vI x :: st) mem := ke_iload_n rfl dX4_hateThen_54
theorem eX4_hateThen_55 : ev X m_X4_hateThen 55 [a0, a1, vI x, a3] st mem = ev X m_X4_hateThen 56 [a0, a1, vI x, a3] (vI x :: st) mem := ke_iload_n rfl dX4_hateThen_55
theorem eX4_hateThen_56 : ev X m_X4_hateThen 56 [a0, a1, a2, a3] (vI n1 :: vI n0 :: vR r :: []) mem = evc X (gR mem r 0 (ev X m_X0_hateOf 0 [vR r, vI n0, vI n1] [] mem)) m_X4_hateThen 59 [a0, a1, a2, a3] [] := ke_callV (m' := m_X0_hateOf) (as := [vI n0, vI n1]) (n := 2) (rest := []) dX4_hateThen_56 rfl rfl rfl rfl rfl rfl (Nat.le_of_ble_eq_true rfl) (Nat.le_of_ble_eq_true rfl) (Nat.le_of_ble_eq_true rfl) rfl
theorem eX4_hateThen_59 : ev X m_X4_hateThen 59 [a0, a1, a2, a3] [vI x] mem = some (some (vI x), mem) := ke_ireturn dX4_hateThen_59 rfl
theorem eX4_gotThen_0 : ev X m_X4_gotThen 0 [a0, vI x, a2, a3] st mem = ev X m_X4_gotThen 1 [a0, vI x, a2, a3] (vI x :: st) mem := ke_iload_n rfl dX4_gotThen_0
theorem eX4_gotThen_1 : ev X m_X4_gotThen 1 [a0, a1, a2, a3] (vI x :: st) mem = if x < 0 then ev X m_X4_gotThen 4 [a0, a1, a2, a3] st mem else ev X m_X4_gotThen 11 [a0, a1, a2, a3] st mem := ke_if_ge dX4_gotThen_1 rfl
theorem eX4_gotThen_4 : ev X m_X4_gotThen 4 [vR r, a1, a2, a3] st mem = ev X m_X4_gotThen 5 [vR r, a1, a2, a3] (vR r :: st) mem := ke_aload_n rfl dX4_gotThen_4
theorem eX4_gotThen_5 : ev X m_X4_gotThen 5 [a0, a1, a2, a3] st mem = ev X m_X4_gotThen 7 [a0, a1, a2, a3] (vI (-4) :: st) mem := ke_bipush (by decide) dX4_gotThen_5
theorem eX4_gotThen_7 : ev X m_X4_gotThen 7 [a0, a1, a2, a3] (vI n0 :: vR r :: []) mem = evc X (gR mem r 4 (ev X m_X4_refuse 0 [vR r, vI n0] [] mem)) m_X4_gotThen 10 [a0, a1, a2, a3] [] := ke_callV (m' := m_X4_refuse) (as := [vI n0]) (n := 1) (rest := []) dX4_gotThen_7 rfl rfl rfl rfl rfl rfl (Nat.le_of_ble_eq_true rfl) (Nat.le_of_ble_eq_true rfl) (Nat.le_of_ble_eq_true rfl) rfl
theorem eX4_gotThen_10 : ev X m_X4_gotThen 10 [a0, a1, a2, a3] [vI x] mem = some (some (vI x), mem) := ke_ireturn dX4_gotThen_10 rfl
theorem eX4_gotThen_11 : ev X m_X4_gotThen 11 [a0, vI x, a2, a3] st mem = ev X m_X4_gotThen 12 [a0, vI x, a2, a3] (vI x :: st) mem := ke_iload_n rfl dX4_gotThen_11
theorem eX4_gotThen_12 : ev X m_X4_gotThen 12 [a0, a1, a2, a3] st mem = ev X m_X4_gotThen 14 [a0, a1, a2, a3] (vI 99 :: st) mem := ke_bipush (by decide) dX4_gotThen_12
theorem eX4_gotThen_14 : ev X m_X4_gotThen 14 [a0, a1, a2, a3] (vI y :: vI x :: st) mem = if y < x then ev X m_X4_gotThen 17 [a0, a1, a2, a3] st mem else ev X m_X4_gotThen 24 [a0, a1, a2, a3] st mem := ke_icmp_le dX4_gotThen_14 rfl
theorem eX4_gotThen_17 : ev X m_X4_gotThen 17 [vR r, a1, a2, a3] st mem = ev X m_X4_gotThen 18 [vR r, a1, a2, a3] (vR r :: st) mem := ke_aload_n rfl dX4_gotThen_17
theorem eX4_gotThen_18 : ev X m_X4_gotThen 18 [a0, a1, a2, a3] st mem = ev X m_X4_gotThen 20 [a0, a1, a2, a3] (vI (-6) :: st) mem := ke_bipush (by decide) dX4_gotThen_18
theorem eX4_gotThen_20 : ev X m_X4_gotThen 20 [a0, a1, a2, a3] (vI n0 :: vR r :: []) mem = evc X (gR mem r 4 (ev X m_X4_refuse 0 [vR r, vI n0] [] mem)) m_X4_gotThen 23 [a0, a1, a2, a3] [] := ke_callV (m' := m_X4_refuse) (as := [vI n0]) (n := 1) (rest := []) dX4_gotThen_20 rfl rfl rfl rfl rfl rfl (Nat.le_of_ble_eq_true rfl) (Nat.le_of_ble_eq_true rfl) (Nat.le_of_ble_eq_true rfl) rfl
theorem eX4_gotThen_23 : ev X m_X4_gotThen 23 [a0, a1, a2, a3] [vI x] mem = some (some (vI x), mem) := ke_ireturn dX4_gotThen_23 rfl
theorem eX4_gotThen_24 : ev X m_X4_gotThen 24 [a0, a1, vI x, a3] st mem = ev X m_X4_gotThen 25 [a0, a1, vI x, a3] (vI x :: st) mem := ke_iload_n rfl dX4_gotThen_24
theorem eX4_gotThen_25 : ev X m_X4_gotThen 25 [a0, a1, a2, a3] st mem = ev X m_X4_gotThen 26 [a0, a1, a2, a3] (vI (-1) :: st) mem := ke_iconst (by decide) dX4_gotThen_25
theorem eX4_gotThen_26 : ev X m_X4_gotThen 26 [a0, a1, a2, a3] (vI y :: vI x :: st) mem = if x = y then ev X m_X4_gotThen 46 [a0, a1, a2, a3] st mem else ev X m_X4_gotThen 29 [a0, a1, a2, a3] st mem := ke_icmp_eq dX4_gotThen_26 rfl
theorem eX4_gotThen_29 : ev X m_X4_gotThen 29 [vR r, a1, a2, a3] st mem = ev X m_X4_gotThen 30 [vR r, a1, a2, a3] (vR r :: st) mem := ke_aload_n rfl dX4_gotThen_29
theorem eX4_gotThen_30 : ev X m_X4_gotThen 30 [a0, a1, a2, a3] (vR r :: st) mem = evb X (fget mem r 4 0) m_X4_gotThen 33 [a0, a1, a2, a3] st mem := ke_getf rfl dX4_gotThen_30
theorem eX4_gotThen_33 : ev X m_X4_gotThen 33 [a0, a1, vI x, a3] st mem = ev X m_X4_gotThen 34 [a0, a1, vI x, a3] (vI x :: st) mem := ke_iload_n rfl dX4_gotThen_33
theorem eX4_gotThen_34 : ev X m_X4_gotThen 34 [a0, a1, a2, a3] (vI n0 :: vR r :: []) mem = evc X (gR mem r 0 (ev X m_X0_hasPerson 0 [vR r, vI n0] [] mem)) m_X4_gotThen 37 [a0, a1, a2, a3] [] := ke_callV (m' := m_X0_hasPerson) (as := [vI n0]) (n := 1) (rest := []) dX4_gotThen_34 rfl rfl rfl rfl rfl rfl (Nat.le_of_ble_eq_true rfl) (Nat.le_of_ble_eq_true rfl) (Nat.le_of_ble_eq_true rfl) rfl
theorem eX4_gotThen_37 : ev X m_X4_gotThen 37 [a0, a1, a2, a3] (vI x :: st) mem = if x = 0 then ev X m_X4_gotThen 40 [a0, a1, a2, a3] st mem else ev X m_X4_gotThen 46 [a0, a1, a2, a3] st mem := ke_if_ne dX4_gotThen_37 rfl
theorem eX4_gotThen_40 : ev X m_X4_gotThen 40 [vR r, a1, a2, a3] st mem = ev X m_X4_gotThen 41 [vR r, a1, a2, a3] (vR r :: st) mem := ke_aload_n rfl dX4_gotThen_40
theorem eX4_gotThen_41 : ev X m_X4_gotThen 41 [a0, a1, a2, a3] st mem = ev X m_X4_gotThen 42 [a0, a1, a2, a3] (vI (-1) :: st) mem := ke_iconst (by decide) dX4_gotThen_41
theorem eX4_gotThen_42 : ev X m_X4_gotThen 42 [a0, a1, a2, a3] (vI n0 :: vR r :: []) mem = evc X (gR mem r 4 (ev X m_X4_refuse 0 [vR r, vI n0] [] mem)) m_X4_gotThen 45 [a0, a1, a2, a3] [] := ke_callV (m' := m_X4_refuse) (as := [vI n0]) (n := 1) (rest := []) dX4_gotThen_42 rfl rfl rfl rfl rfl rfl (Nat.le_of_ble_eq_true rfl) (Nat.le_of_ble_eq_true rfl) (Nat.le_of_ble_eq_true rfl) rfl
theorem eX4_gotThen_45 : ev X m_X4_gotThen 45 [a0, a1, a2, a3] [vI x] mem = some (some (vI x), mem) := ke_ireturn dX4_gotThen_45 rfl
theorem eX4_gotThen_46 : ev X m_X4_gotThen 46 [vR r, a1, a2, a3] st mem = ev X m_X4_gotThen 47 [vR r, a1, a2, a3] (vR r :: st) mem := ke_aload_n rfl dX4_gotThen_46
theorem eX4_gotThen_47 : ev X m_X4_gotThen 47 [a0, a1, a2, a3] (vR r :: st) mem = evb X (fget mem r 4 3) m_X4_gotThen 50 [a0, a1, a2, a3] st mem := ke_getf rfl dX4_gotThen_47
theorem eX4_gotThen_50 : ev X m_X4_gotThen 50 [vR r, a1, a2, a3] st mem = ev X m_X4_gotThen 51 [vR r, a1, a2, a3] (vR r :: st) mem := ke_aload_n rfl dX4_gotThen_50
theorem eX4_gotThen_51 : ev X m_X4_gotThen 51 [a0, a1, a2, a3] (vR r :: st) mem = evb X (fget mem r 4 0) m_X4_gotThen 54 [a0, a1, a2, a3] st mem := ke_getf rfl dX4_gotThen_51
theorem eX4_gotThen_54 : ev X m_X4_gotThen 54 [a0, vI x, a2, a3] st mem = ev X m_X4_gotThen 55 [a0, vI x, a2, a3] (vI x :: st) mem := ke_iload_n rfl dX4_gotThen_54
theorem eX4_gotThen_55 : ev X m_X4_gotThen 55 [a0, a1, a2, a3] (vI n1 :: vR r0 :: vR r :: []) mem = evc X (gR mem r 3 (ev X m_X3_behind 0 [vR r, vR r0, vI n1] [] mem)) m_X4_gotThen 58 [a0, a1, a2, a3] [] := ke_callV (m' := m_X3_behind) (as := [vR r0, vI n1]) (n := 2) (rest := []) dX4_gotThen_55 rfl rfl rfl rfl rfl rfl (Nat.le_of_ble_eq_true rfl) (Nat.le_of_ble_eq_true rfl) (Nat.le_of_ble_eq_true rfl) rfl
theorem eX4_gotThen_58 : ev X m_X4_gotThen 58 [a0, a1, a2, a3] (vR r :: st) mem = ev X m_X4_gotThen 59 [a0, a1, a2, vR r] st mem := ke_astore_n (Nat.le_of_ble_eq_true rfl) rfl dX4_gotThen_58
theorem eX4_gotThen_59 : ev X m_X4_gotThen 59 [a0, a1, vI x, a3] st mem = ev X m_X4_gotThen 60 [a0, a1, vI x, a3] (vI x :: st) mem := ke_iload_n rfl dX4_gotThen_59
theorem eX4_gotThen_60 : ev X m_X4_gotThen 60 [a0, a1, a2, a3] st mem = ev X m_X4_gotThen 61 [a0, a1, a2, a3] (vI (-1) :: st) mem := ke_iconst (by decide) dX4_gotThen_60
theorem eX4_gotThen_61 : ev X m_X4_gotThen 61 [a0, a1, a2, a3] (vI y :: vI x :: st) mem = if x = y then ev X m_X4_gotThen 64 [a0, a1, a2, a3] st mem else ev X m_X4_gotThen 71 [a0, a1, a2, a3] st mem := ke_icmp_ne dX4_gotThen_61 rfl
theorem eX4_gotThen_64 : ev X m_X4_gotThen 64 [a0, a1, a2, vR r] st mem = ev X m_X4_gotThen 65 [a0, a1, a2, vR r] (vR r :: st) mem := ke_aload_n rfl dX4_gotThen_64
theorem eX4_gotThen_65 : ev X m_X4_gotThen 65 [a0, a1, a2, a3] (vR r :: []) mem = evc X (gR mem r 0 (ev X m_X0_brought 0 [vR r, vS, vS] [] mem)) m_X4_gotThen 68 [a0, a1, a2, a3] [] := ke_callV (m' := m_X0_brought) (as := []) (n := 0) (rest := []) dX4_gotThen_65 rfl rfl rfl rfl rfl rfl (Nat.le_of_ble_eq_true rfl) (Nat.le_of_ble_eq_true rfl) (Nat.le_of_ble_eq_true rfl) rfl
theorem eX4_gotThen_68 : ev X m_X4_gotThen 68 [a0, a1, a2, a3] st mem = ev X m_X4_gotThen 77 [a0, a1, a2, a3] st mem := ke_goto dX4_gotThen_68 rfl
theorem eX4_gotThen_71 : ev X m_X4_gotThen 71 [a0, a1, a2, vR r] st mem = ev X m_X4_gotThen 72 [a0, a1, a2, vR r] (vR r :: st) mem := ke_aload_n rfl dX4_gotThen_71
theorem eX4_gotThen_72 : ev X m_X4_gotThen 72 [a0, a1, a2, a3] (vR r :: st) mem = evb X (fget mem r 0 6) m_X4_gotThen 75 [a0, a1, a2, a3] st mem := ke_getf rfl dX4_gotThen_72
theorem eX4_gotThen_75 : ev X m_X4_gotThen 75 [a0, a1, vI x, a3] st mem = ev X m_X4_gotThen 76 [a0, a1, vI x, a3] (vI x :: st) mem := ke_iload_n rfl dX4_gotThen_75
theorem eX4_gotThen_76 : ev X m_X4_gotThen 76 [a0, a1, a2, a3] (vI x :: vR r :: st) mem = evb X (aget mem r x) m_X4_gotThen 77 [a0, a1, a2, a3] st mem := ke_iaload dX4_gotThen_76
theorem eX4_gotThen_77 : ev X m_X4_gotThen 77 [a0, a1, a2, a3] [vI x] mem = some (some (vI x), mem) := ke_ireturn dX4_gotThen_77 rfl
theorem eX4_when_0 : ev X m_X4_when 0 [vR r, a1] st mem = ev X m_X4_when 1 [vR r, a1] (vR r :: st) mem := ke_aload_n rfl dX4_when_0
theorem eX4_when_1 : ev X m_X4_when 1 [a0, a1] (vR r :: st) mem = evb X (fget mem r 4 0) m_X4_when 4 [a0, a1] st mem := ke_getf rfl dX4_when_1
theorem eX4_when_4 : ev X m_X4_when 4 [a0, vI x] st mem = ev X m_X4_when 5 [a0, vI x] (vI x :: st) mem := ke_iload_n rfl dX4_when_4
theorem eX4_when_5 : ev X m_X4_when 5 [a0, a1] (vI n0 :: vR r :: []) mem = evc X (gR mem r 0 (ev X m_X0_hasParcel 0 [vR r, vI n0] [] mem)) m_X4_when 8 [a0, a1] [] := ke_callV (m' := m_X0_hasParcel) (as := [vI n0]) (n := 1) (rest := []) dX4_when_5 rfl rfl rfl rfl rfl rfl (Nat.le_of_ble_eq_true rfl) (Nat.le_of_ble_eq_true rfl) (Nat.le_of_ble_eq_true rfl) rfl
theorem eX4_when_8 : ev X m_X4_when 8 [a0, a1] (vI x :: st) mem = if x = 0 then ev X m_X4_when 11 [a0, a1] st mem else ev X m_X4_when 17 [a0, a1] st mem := ke_if_ne dX4_when_8 rfl
theorem eX4_when_11 : ev X m_X4_when 11 [vR r, a1] st mem = ev X m_X4_when 12 [vR r, a1] (vR r :: st) mem := ke_aload_n rfl dX4_when_11
theorem eX4_when_12 : ev X m_X4_when 12 [a0, a1] st mem = ev X m_X4_when 13 [a0, a1] (vI (-1) :: st) mem := ke_iconst (by decide) dX4_when_12
theorem eX4_when_13 : ev X m_X4_when 13 [a0, a1] (vI n0 :: vR r :: []) mem = evc X (gR mem r 4 (ev X m_X4_refuse 0 [vR r, vI n0] [] mem)) m_X4_when 16 [a0, a1] [] := ke_callV (m' := m_X4_refuse) (as := [vI n0]) (n := 1) (rest := []) dX4_when_13 rfl rfl rfl rfl rfl rfl (Nat.le_of_ble_eq_true rfl) (Nat.le_of_ble_eq_true rfl) (Nat.le_of_ble_eq_true rfl) rfl
theorem eX4_when_16 : ev X m_X4_when 16 [a0, a1] [vI x] mem = some (some (vI x), mem) := ke_ireturn dX4_when_16 rfl
theorem eX4_when_17 : ev X m_X4_when 17 [vR r, a1] st mem = ev X m_X4_when 18 [vR r, a1] (vR r :: st) mem := ke_aload_n rfl dX4_when_17
theorem eX4_when_18 : ev X m_X4_when 18 [a0, a1] (vR r :: st) mem = evb X (fget mem r 4 3) m_X4_when 21 [a0, a1] st mem := ke_getf rfl dX4_when_18
theorem eX4_when_21 : ev X m_X4_when 21 [vR r, a1] st mem = ev X m_X4_when 22 [vR r, a1] (vR r :: st) mem := ke_aload_n rfl dX4_when_21
theorem eX4_when_22 : ev X m_X4_when 22 [a0, a1] (vR r :: st) mem = evb X (fget mem r 4 0) m_X4_when 25 [a0, a1] st mem := ke_getf rfl dX4_when_22
theorem eX4_when_25 : ev X m_X4_when 25 [a0, a1] st mem = ev X m_X4_when 26 [a0, a1] (vI 0 :: st) mem := ke_iconst (by decide) dX4_when_25
theorem eX4_when_26 : ev X m_X4_when 26 [a0, a1] (vI n1 :: vR r0 :: vR r :: []) mem = evc X (gR mem r 3 (ev X m_X3_behind 0 [vR r, vR r0, vI n1] [] mem)) m_X4_when 29 [a0, a1] [] := ke_callV (m' := m_X3_behind) (as := [vR r0, vI n1]) (n := 2) (rest := []) dX4_when_26 rfl rfl rfl rfl rfl rfl (Nat.le_of_ble_eq_true rfl) (Nat.le_of_ble_eq_true rfl) (Nat.le_of_ble_eq_true rfl) rfl
theorem eX4_when_29 : ev X m_X4_when 29 [a0, vI x] st mem = ev X m_X4_when 30 [a0, vI x] (vI x :: st) mem := ke_iload_n rfl dX4_when_29
theorem eX4_when_30 : ev X m_X4_when 30 [a0, a1] st mem = ev X m_X4_when 32 [a0, a1] (vI 99 :: st) mem := ke_bipush (by decide) dX4_when_30
theorem eX4_when_32 : ev X m_X4_when 32 [a0, a1] (vI n2 :: vI n1 :: vR r0 :: []) mem = evc X (ev X m_X4_daysTillBrought 0 [vR r0, vI n1, vI n2, vS] [] mem) m_X4_when 35 [a0, a1] [] := ke_callS (m' := m_X4_daysTillBrought) (as := [vR r0, vI n1, vI n2]) (n := 3) (rest := []) dX4_when_32 rfl (by decide) rfl rfl rfl rfl rfl (Nat.le_of_ble_eq_true rfl) (Nat.le_of_ble_eq_true rfl) rfl
theorem eX4_when_35 : ev X m_X4_when 35 [a0, a1] (vI n0 :: []) mem = evc X (ev X m_X4_dayOrNone 0 [vI n0] [] mem) m_X4_when 38 [a0, a1] [] := ke_callS (m' := m_X4_dayOrNone) (as := [vI n0]) (n := 1) (rest := []) dX4_when_35 rfl (by decide) rfl rfl rfl rfl rfl (Nat.le_of_ble_eq_true rfl) (Nat.le_of_ble_eq_true rfl) rfl
theorem eX4_when_38 : ev X m_X4_when 38 [a0, a1] [vI x] mem = some (some (vI x), mem) := ke_ireturn dX4_when_38 rfl
theorem eX4_daysTillBrought_0 : ev X m_X4_daysTillBrought 0 [a0, a1, a2, a3] st mem = ev X m_X4_daysTillBrought 1 [a0, a1, a2, a3] (vI 0 :: st) mem := ke_iconst (by decide) dX4_daysTillBrought_0
theorem eX4_daysTillBrought_1 : ev X m_X4_daysTillBrought 1 [a0, a1, a2, a3] (vI x :: st) mem = ev X m_X4_daysTillBrought 2 [a0, a1, a2, vI x] st mem := ke_istore_n (Nat.le_of_ble_eq_true rfl) rfl dX4_daysTillBrought_1
theorem eX4_daysTillBrought_2 : ev X m_X4_daysTillBrought 2 [a0, a1, a2, vI x] st mem = ev X m_X4_daysTillBrought 3 [a0, a1, a2, vI x] (vI x :: st) mem := ke_iload_n rfl dX4_daysTillBrought_2
theorem eX4_daysTillBrought_3 : ev X m_X4_daysTillBrought 3 [a0, a1, vI x, a3] st mem = ev X m_X4_daysTillBrought 4 [a0, a1, vI x, a3] (vI x :: st) mem := ke_iload_n rfl dX4_daysTillBrought_3
theorem eX4_daysTillBrought_4 : ev X m_X4_daysTillBrought 4 [a0, a1, a2, a3] (vI y :: vI x :: st) mem = if y < x then ev X m_X4_daysTillBrought 29 [a0, a1, a2, a3] st mem else ev X m_X4_daysTillBrought 7 [a0, a1, a2, a3] st mem := ke_icmp_gt dX4_daysTillBrought_4 rfl
theorem eX4_daysTillBrought_7 : ev X m_X4_daysTillBrought 7 [vR r, a1, a2, a3] st mem = ev X m_X4_daysTillBrought 8 [vR r, a1, a2, a3] (vR r :: st) mem := ke_aload_n rfl dX4_daysTillBrought_7
theorem eX4_daysTillBrought_8 : ev X m_X4_daysTillBrought 8 [a0, vI x, a2, a3] st mem = ev X m_X4_daysTillBrought 9 [a0, vI x, a2, a3] (vI x :: st) mem := ke_iload_n rfl dX4_daysTillBrought_8
theorem eX4_daysTillBrought_9 : ev X m_X4_daysTillBrought 9 [a0, a1, a2, a3] (vI n0 :: vR r :: []) mem = evc X (gR mem r 0 (ev X m_X0_stateOf 0 [vR r, vI n0] [] mem)) m_X4_daysTillBrought 12 [a0, a1, a2, a3] [] := ke_callV (m' := m_X0_stateOf) (as := [vI n0]) (n := 1) (rest := []) dX4_daysTillBrought_9 rfl rfl rfl rfl rfl rfl (Nat.le_of_ble_eq_true rfl) (Nat.le_of_ble_eq_true rfl) (Nat.le_of_ble_eq_true rfl) rfl
theorem eX4_daysTillBrought_12 : ev X m_X4_daysTillBrought 12 [a0, a1, a2, a3] st mem = ev X m_X4_daysTillBrought 13 [a0, a1, a2, a3] (vI 2 :: st) mem := ke_iconst (by decide) dX4_daysTillBrought_12
theorem eX4_daysTillBrought_13 : ev X m_X4_daysTillBrought 13 [a0, a1, a2, a3] (vI y :: vI x :: st) mem = if x = y then ev X m_X4_daysTillBrought 16 [a0, a1, a2, a3] st mem else ev X m_X4_daysTillBrought 18 [a0, a1, a2, a3] st mem := ke_icmp_ne dX4_daysTillBrought_13 rfl
theorem eX4_daysTillBrought_16 : ev X m_X4_daysTillBrought 16 [a0, a1, a2, vI x] st mem = ev X m_X4_daysTillBrought 17 [a0, a1, a2, vI x] (vI x :: st) mem := ke_iload_n rfl dX4_daysTillBrought_16
theorem eX4_daysTillBrought_17 : ev X m_X4_daysTillBrought 17 [a0, a1, a2, a3] [vI x] mem = some (some (vI x), mem) := ke_ireturn dX4_daysTillBrought_17 rfl
theorem eX4_daysTillBrought_18 : ev X m_X4_daysTillBrought 18 [vR r, a1, a2, a3] st mem = ev X m_X4_daysTillBrought 19 [vR r, a1, a2, a3] (vR r :: st) mem := ke_aload_n rfl dX4_daysTillBrought_18
theorem eX4_daysTillBrought_19 : ev X m_X4_daysTillBrought 19 [a0, a1, a2, a3] st mem = ev X m_X4_daysTillBrought 20 [a0, a1, a2, a3] (vI 0 :: st) mem := ke_iconst (by decide) dX4_daysTillBrought_19
theorem eX4_daysTillBrought_20 : ev X m_X4_daysTillBrought 20 [a0, a1, a2, a3] (vI n0 :: vR r :: []) mem = evc X (gR mem r 0 (ev X m_X0_passDay 0 [vR r, vI n0] [] mem)) m_X4_daysTillBrought 23 [a0, a1, a2, a3] [] := ke_callV (m' := m_X0_passDay) (as := [vI n0]) (n := 1) (rest := []) dX4_daysTillBrought_20 rfl rfl rfl rfl rfl rfl (Nat.le_of_ble_eq_true rfl) (Nat.le_of_ble_eq_true rfl) (Nat.le_of_ble_eq_true rfl) rfl
theorem eX4_daysTillBrought_23 : ev X m_X4_daysTillBrought 23 [a0, a1, a2, vI x] st mem = ev X m_X4_daysTillBrought 26 [a0, a1, a2, vI (w32 (x + 1))] st mem := ke_iinc rfl (Nat.le_of_ble_eq_true rfl) rfl dX4_daysTillBrought_23
theorem eX4_daysTillBrought_26 : ev X m_X4_daysTillBrought 26 [a0, a1, a2, a3] st mem = ev X m_X4_daysTillBrought 2 [a0, a1, a2, a3] st mem := ke_goto dX4_daysTillBrought_26 rfl
theorem eX4_daysTillBrought_29 : ev X m_X4_daysTillBrought 29 [a0, a1, a2, a3] st mem = ev X m_X4_daysTillBrought 31 [a0, a1, a2, a3] (vI 100 :: st) mem := ke_bipush (by decide) dX4_daysTillBrought_29
theorem eX4_daysTillBrought_31 : ev X m_X4_daysTillBrought 31 [a0, a1, a2, a3] [vI x] mem = some (some (vI x), mem) := ke_ireturn dX4_daysTillBrought_31 rfl
theorem eX4_dayOrNone_0 : ev X m_X4_dayOrNone 0 [vI x] st mem = ev X m_X4_dayOrNone 1 [vI x] (vI x :: st) mem := ke_iload_n rfl dX4_dayOrNone_0
theorem eX4_dayOrNone_1 : ev X m_X4_dayOrNone 1 [a0] st mem = ev X m_X4_dayOrNone 3 [a0] (vI 100 :: st) mem := ke_bipush (by decide) dX4_dayOrNone_1
theorem eX4_dayOrNone_3 : ev X m_X4_dayOrNone 3 [a0] (vI y :: vI x :: st) mem = if x < y then ev X m_X4_dayOrNone 6 [a0] st mem else ev X m_X4_dayOrNone 10 [a0] st mem := ke_icmp_ge dX4_dayOrNone_3 rfl
theorem eX4_dayOrNone_6 : ev X m_X4_dayOrNone 6 [vI x] st mem = ev X m_X4_dayOrNone 7 [vI x] (vI x :: st) mem := ke_iload_n rfl dX4_dayOrNone_6
theorem eX4_dayOrNone_7 : ev X m_X4_dayOrNone 7 [a0] st mem = ev X m_X4_dayOrNone 12 [a0] st mem := ke_goto dX4_dayOrNone_7 rfl
theorem eX4_dayOrNone_10 : ev X m_X4_dayOrNone 10 [a0] st mem = ev X m_X4_dayOrNone 12 [a0] (vI (-9) :: st) mem := ke_bipush (by decide) dX4_dayOrNone_10
theorem eX4_dayOrNone_12 : ev X m_X4_dayOrNone 12 [a0] [vI x] mem = some (some (vI x), mem) := ke_ireturn dX4_dayOrNone_12 rfl
theorem eX4_first_0 : ev X m_X4_first 0 [a0, vI x, a2] st mem = ev X m_X4_first 1 [a0, vI x, a2] (vI x :: st) mem := ke_iload_n rfl dX4_first_0
theorem eX4_first_1 : ev X m_X4_first 1 [a0, a1, a2] (vI x :: st) mem = if x < 0 then ev X m_X4_first 9 [a0, a1, a2] st mem else ev X m_X4_first 4 [a0, a1, a2] st mem := ke_if_lt dX4_first_1 rfl
theorem eX4_first_4 : ev X m_X4_first 4 [a0, vI x, a2] st mem = ev X m_X4_first 5 [a0, vI x, a2] (vI x :: st) mem := ke_iload_n rfl dX4_first_4
theorem eX4_first_5 : ev X m_X4_first 5 [a0, a1, a2] st mem = ev X m_X4_first 6 [a0, a1, a2] (vI 2 :: st) mem := ke_iconst (by decide) dX4_first_5
theorem eX4_first_6 : ev X m_X4_first 6 [a0, a1, a2] (vI y :: vI x :: st) mem = if y < x then ev X m_X4_first 9 [a0, a1, a2] st mem else ev X m_X4_first 16 [a0, a1, a2] st mem := ke_icmp_le dX4_first_6 rfl
theorem eX4_first_9 : ev X m_X4_first 9 [vR r, a1, a2] st mem = ev X m_X4_first 10 [vR r, a1, a2] (vR r :: st) mem := ke_aload_n rfl dX4_first_9
theorem eX4_first_10 : ev X m_X4_first 10 [a0, a1, a2] st mem = ev X m_X4_first 12 [a0, a1, a2] (vI (-2) :: st) mem := ke_bipush (by decide) dX4_first_10
theorem eX4_first_12 : ev X m_X4_first 12 [a0, a1, a2] (vI n0 :: vR r :: []) mem = evc X (gR mem r 4 (ev X m_X4_refuse 0 [vR r, vI n0] [] mem)) m_X4_first 15 [a0, a1, a2] [] := ke_callV (m' := m_X4_refuse) (as := [vI n0]) (n := 1) (rest := []) dX4_first_12 rfl rfl rfl rfl rfl rfl (Nat.le_of_ble_eq_true rfl) (Nat.le_of_ble_eq_true rfl) (Nat.le_of_ble_eq_true rfl) rfl
theorem eX4_first_15 : ev X m_X4_first 15 [a0, a1, a2] [vI x] mem = some (some (vI x), mem) := ke_ireturn dX4_first_15 rfl
theorem eX4_first_16 : ev X m_X4_first 16 [a0, vI x, a2] st mem = ev X m_X4_first 17 [a0, vI x, a2] (vI x :: st) mem := ke_iload_n rfl dX4_first_16
theorem eX4_first_17 : ev X m_X4_first 17 [a0, a1, a2] st mem = ev X m_X4_first 18 [a0, a1, a2] (vI 2 :: st) mem := ke_iconst (by decide) dX4_first_17
theorem eX4_first_18 : ev X m_X4_first 18 [a0, a1, a2] (vI y :: vI x :: st) mem = if x = y then ev X m_X4_first 21 [a0, a1, a2] st mem else ev X m_X4_first 36 [a0, a1, a2] st mem := ke_icmp_ne dX4_first_18 rfl
theorem eX4_first_21 : ev X m_X4_first 21 [vR r, a1, a2] st mem = ev X m_X4_first 22 [vR r, a1, a2] (vR r :: st) mem := ke_aload_n rfl dX4_first_21
theorem eX4_first_22 : ev X m_X4_first 22 [a0, a1, a2] (vR r :: st) mem = evb X (fget mem r 4 3) m_X4_first 25 [a0, a1, a2] st mem := ke_getf rfl dX4_first_22
theorem eX4_first_25 : ev X m_X4_first 25 [vR r, a1, a2] st mem = ev X m_X4_first 26 [vR r, a1, a2] (vR r :: st) mem := ke_aload_n rfl dX4_first_25
theorem eX4_first_26 : ev X m_X4_first 26 [a0, a1, a2] (vR r :: st) mem = evb X (fget mem r 4 0) m_X4_first 29 [a0, a1, a2] st mem := ke_getf rfl dX4_first_26
theorem eX4_first_29 : ev X m_X4_first 29 [a0, a1, a2] (vR r0 :: vR r :: []) mem = evc X (gR mem r 3 (ev X m_X3_daysTillAll 0 [vR r, vR r0, vS] [] mem)) m_X4_first 32 [a0, a1, a2] [] := ke_callV (m' := m_X3_daysTillAll) (as := [vR r0]) (n := 1) (rest := []) dX4_first_29 rfl rfl rfl rfl rfl rfl (Nat.le_of_ble_eq_true rfl) (Nat.le_of_ble_eq_true rfl) (Nat.le_of_ble_eq_true rfl) rfl
theorem eX4_first_32 : ev X m_X4_first 32 [a0, a1, a2] (vI n0 :: []) mem = evc X (ev X m_X4_dayOrNone 0 [vI n0] [] mem) m_X4_first 35 [a0, a1, a2] [] := ke_callS (m' := m_X4_dayOrNone) (as := [vI n0]) (n := 1) (rest := []) dX4_first_32 rfl (by decide) rfl rfl rfl rfl rfl (Nat.le_of_ble_eq_true rfl) (Nat.le_of_ble_eq_true rfl) rfl
theorem eX4_first_35 : ev X m_X4_first 35 [a0, a1, a2] [vI x] mem = some (some (vI x), mem) := ke_ireturn dX4_first_35 rfl
theorem eX4_first_36 : ev X m_X4_first 36 [vR r, a1, a2] st mem = ev X m_X4_first 37 [vR r, a1, a2] (vR r :: st) mem := ke_aload_n rfl dX4_first_36
theorem eX4_first_37 : ev X m_X4_first 37 [a0, a1, a2] (vR r :: st) mem = evb X (fget mem r 4 3) m_X4_first 40 [a0, a1, a2] st mem := ke_getf rfl dX4_first_37
theorem eX4_first_40 : ev X m_X4_first 40 [vR r, a1, a2] st mem = ev X m_X4_first 41 [vR r, a1, a2] (vR r :: st) mem := ke_aload_n rfl dX4_first_40
theorem eX4_first_41 : ev X m_X4_first 41 [a0, a1, a2] (vR r :: st) mem = evb X (fget mem r 4 0) m_X4_first 44 [a0, a1, a2] st mem := ke_getf rfl dX4_first_41
theorem eX4_first_44 : ev X m_X4_first 44 [a0, a1, a2] (vR r0 :: vR r :: []) mem = evc X (gR mem r 3 (ev X m_X3_firstBrought 0 [vR r, vR r0, vS, vS] [] mem)) m_X4_first 47 [a0, a1, a2] [] := ke_callV (m' := m_X3_firstBrought) (as := [vR r0]) (n := 1) (rest := []) dX4_first_44 rfl rfl rfl rfl rfl rfl (Nat.le_of_ble_eq_true rfl) (Nat.le_of_ble_eq_true rfl) (Nat.le_of_ble_eq_true rfl) rfl
theorem eX4_first_47 : ev X m_X4_first 47 [a0, a1, a2] (vI x :: st) mem = ev X m_X4_first 48 [a0, a1, vI x] st mem := ke_istore_n (Nat.le_of_ble_eq_true rfl) rfl dX4_first_47
theorem eX4_first_48 : ev X m_X4_first 48 [a0, vI x, a2] st mem = ev X m_X4_first 49 [a0, vI x, a2] (vI x :: st) mem := ke_iload_n rfl dX4_first_48
theorem eX4_first_49 : ev X m_X4_first 49 [a0, a1, a2] (vI x :: st) mem = if x = 0 then ev X m_X4_first 58 [a0, a1, a2] st mem else ev X m_X4_first 52 [a0, a1, a2] st mem := ke_if_eq dX4_first_49 rfl
theorem eX4_first_52 : ev X m_X4_first 52 [a0, a1, vI x] st mem = ev X m_X4_first 53 [a0, a1, vI x] (vI x :: st) mem := ke_iload_n rfl dX4_first_52
theorem eX4_first_53 : ev X m_X4_first 53 [a0, a1, a2] st mem = ev X m_X4_first 55 [a0, a1, a2] (vI (-9) :: st) mem := ke_bipush (by decide) dX4_first_53
theorem eX4_first_55 : ev X m_X4_first 55 [a0, a1, a2] (vI y :: vI x :: st) mem = if x = y then ev X m_X4_first 58 [a0, a1, a2] st mem else ev X m_X4_first 60 [a0, a1, a2] st mem := ke_icmp_ne dX4_first_55 rfl
theorem eX4_first_58 : ev X m_X4_first 58 [a0, a1, vI x] st mem = ev X m_X4_first 59 [a0, a1, vI x] (vI x :: st) mem := ke_iload_n rfl dX4_first_58
theorem eX4_first_59 : ev X m_X4_first 59 [a0, a1, a2] [vI x] mem = some (some (vI x), mem) := ke_ireturn dX4_first_59 rfl
theorem eX4_first_60 : ev X m_X4_first 60 [vR r, a1, a2] st mem = ev X m_X4_first 61 [vR r, a1, a2] (vR r :: st) mem := ke_aload_n rfl dX4_first_60
theorem eX4_first_61 : ev X m_X4_first 61 [a0, a1, a2] (vR r :: st) mem = evb X (fget mem r 4 3) m_X4_first 64 [a0, a1, a2] st mem := ke_getf rfl dX4_first_61
theorem eX4_first_64 : ev X m_X4_first 64 [vR r, a1, a2] st mem = ev X m_X4_first 65 [vR r, a1, a2] (vR r :: st) mem := ke_aload_n rfl dX4_first_64
theorem eX4_first_65 : ev X m_X4_first 65 [a0, a1, a2] (vR r :: st) mem = evb X (fget mem r 4 0) m_X4_first 68 [a0, a1, a2] st mem := ke_getf rfl dX4_first_65
theorem eX4_first_68 : ev X m_X4_first 68 [a0, a1, a2] st mem = ev X m_X4_first 69 [a0, a1, a2] (vI 0 :: st) mem := ke_iconst (by decide) dX4_first_68
theorem eX4_first_69 : ev X m_X4_first 69 [a0, a1, a2] (vI n1 :: vR r0 :: vR r :: []) mem = evc X (gR mem r 3 (ev X m_X3_behind 0 [vR r, vR r0, vI n1] [] mem)) m_X4_first 72 [a0, a1, a2] [] := ke_callV (m' := m_X3_behind) (as := [vR r0, vI n1]) (n := 2) (rest := []) dX4_first_69 rfl rfl rfl rfl rfl rfl (Nat.le_of_ble_eq_true rfl) (Nat.le_of_ble_eq_true rfl) (Nat.le_of_ble_eq_true rfl) rfl
theorem eX4_first_72 : ev X m_X4_first 72 [a0, a1, vI x] st mem = ev X m_X4_first 73 [a0, a1, vI x] (vI x :: st) mem := ke_iload_n rfl dX4_first_72
theorem eX4_first_73 : ev X m_X4_first 73 [a0, a1, a2] st mem = ev X m_X4_first 75 [a0, a1, a2] (vI 99 :: st) mem := ke_bipush (by decide) dX4_first_73
theorem eX4_first_75 : ev X m_X4_first 75 [a0, a1, a2] (vI n2 :: vI n1 :: vR r0 :: []) mem = evc X (ev X m_X4_daysTillBrought 0 [vR r0, vI n1, vI n2, vS] [] mem) m_X4_first 78 [a0, a1, a2] [] := ke_callS (m' := m_X4_daysTillBrought) (as := [vR r0, vI n1, vI n2]) (n := 3) (rest := []) dX4_first_75 rfl (by decide) rfl rfl rfl rfl rfl (Nat.le_of_ble_eq_true rfl) (Nat.le_of_ble_eq_true rfl) rfl
theorem eX4_first_78 : ev X m_X4_first 78 [a0, a1, a2] (vI n0 :: []) mem = evc X (ev X m_X4_dayOrNone 0 [vI n0] [] mem) m_X4_first 81 [a0, a1, a2] [] := ke_callS (m' := m_X4_dayOrNone) (as := [vI n0]) (n := 1) (rest := []) dX4_first_78 rfl (by decide) rfl rfl rfl rfl rfl (Nat.le_of_ble_eq_true rfl) (Nat.le_of_ble_eq_true rfl) rfl
theorem eX4_first_81 : ev X m_X4_first 81 [a0, a1, a2] [vI x] mem = some (some (vI x), mem) := ke_ireturn dX4_first_81 rfl
theorem eX3_daysTillAll_0 : ev X m_X3_daysTillAll 0 [vR r, a1, a2] st mem = ev X m_X3_daysTillAll 1 [vR r, a1, a2] (vR r :: st) mem := ke_aload_n rfl dX3_daysTillAll_0
theorem eX3_daysTillAll_1 : ev X m_X3_daysTillAll 1 [a0, a1, a2] (vR r :: st) mem = evb X (fget mem r 3 0) m_X3_daysTillAll 4 [a0, a1, a2] st mem := ke_getf rfl dX3_daysTillAll_1
theorem eX3_daysTillAll_4 : ev X m_X3_daysTillAll 4 [a0, vR r, a2] st mem = ev X m_X3_daysTillAll 5 [a0, vR r, a2] (vR r :: st) mem := ke_aload_n rfl dX3_daysTillAll_4
theorem eX3_daysTillAll_5 : ev X m_X3_daysTillAll 5 [a0, a1, a2] (vR r0 :: vR r :: []) mem = evc X (gR mem r 0 (ev X m_X0_become 0 [vR r, vR r0] [] mem)) m_X3_daysTillAll 8 [a0, a1, a2] [] := ke_callV (m' := m_X0_become) (as := [vR r0]) (n := 1) (rest := []) dX3_daysTillAll_5 rfl rfl rfl rfl rfl rfl (Nat.le_of_ble_eq_true rfl) (Nat.le_of_ble_eq_true rfl) (Nat.le_of_ble_eq_true rfl) rfl
theorem eX3_daysTillAll_8 : ev X m_X3_daysTillAll 8 [a0, a1, a2] st mem = ev X m_X3_daysTillAll 9 [a0, a1, a2] (vI 0 :: st) mem := ke_iconst (by decide) dX3_daysTillAll_8
theorem eX3_daysTillAll_9 : ev X m_X3_daysTillAll 9 [a0, a1, a2] (vI x :: st) mem = ev X m_X3_daysTillAll 10 [a0, a1, vI x] st mem := ke_istore_n (Nat.le_of_ble_eq_true rfl) rfl dX3_daysTillAll_9
theorem eX3_daysTillAll_10 : ev X m_X3_daysTillAll 10 [a0, a1, vI x] st mem = ev X m_X3_daysTillAll 11 [a0, a1, vI x] (vI x :: st) mem := ke_iload_n rfl dX3_daysTillAll_10
theorem eX3_daysTillAll_11 : ev X m_X3_daysTillAll 11 [a0, a1, a2] st mem = ev X m_X3_daysTillAll 13 [a0, a1, a2] (vI 99 :: st) mem := ke_bipush (by decide) dX3_daysTillAll_11
theorem eX3_daysTillAll_13 : ev X m_X3_daysTillAll 13 [a0, a1, a2] (vI y :: vI x :: st) mem = if y < x then ev X m_X3_daysTillAll 49 [a0, a1, a2] st mem else ev X m_X3_daysTillAll 16 [a0, a1, a2] st mem := ke_icmp_gt dX3_daysTillAll_13 rfl
theorem eX3_daysTillAll_16 : ev X m_X3_daysTillAll 16 [vR r, a1, a2] st mem = ev X m_X3_daysTillAll 17 [vR r, a1, a2] (vR r :: st) mem := ke_aload_n rfl dX3_daysTillAll_16
theorem eX3_daysTillAll_17 : ev X m_X3_daysTillAll 17 [a0, a1, a2] (vR r :: st) mem = evb X (fget mem r 3 0) m_X3_daysTillAll 20 [a0, a1, a2] st mem := ke_getf rfl dX3_daysTillAll_17
theorem eX3_daysTillAll_20 : ev X m_X3_daysTillAll 20 [a0, a1, a2] (vR r :: []) mem = evc X (gR mem r 0 (ev X m_X0_brought 0 [vR r, vS, vS] [] mem)) m_X3_daysTillAll 23 [a0, a1, a2] [] := ke_callV (m' := m_X0_brought) (as := []) (n := 0) (rest := []) dX3_daysTillAll_20 rfl rfl rfl rfl rfl rfl (Nat.le_of_ble_eq_true rfl) (Nat.le_of_ble_eq_true rfl) (Nat.le_of_ble_eq_true rfl) rfl
theorem eX3_daysTillAll_23 : ev X m_X3_daysTillAll 23 [vR r, a1, a2] st mem = ev X m_X3_daysTillAll 24 [vR r, a1, a2] (vR r :: st) mem := ke_aload_n rfl dX3_daysTillAll_23
theorem eX3_daysTillAll_24 : ev X m_X3_daysTillAll 24 [a0, a1, a2] (vR r :: st) mem = evb X (fget mem r 3 0) m_X3_daysTillAll 27 [a0, a1, a2] st mem := ke_getf rfl dX3_daysTillAll_24
theorem eX3_daysTillAll_27 : ev X m_X3_daysTillAll 27 [a0, a1, a2] (vR r :: st) mem = evb X (fget mem r 0 1) m_X3_daysTillAll 30 [a0, a1, a2] st mem := ke_getf rfl dX3_daysTillAll_27
theorem eX3_daysTillAll_30 : ev X m_X3_daysTillAll 30 [a0, a1, a2] (vI y :: vI x :: st) mem = if x = y then ev X m_X3_daysTillAll 33 [a0, a1, a2] st mem else ev X m_X3_daysTillAll 35 [a0, a1, a2] st mem := ke_icmp_ne dX3_daysTillAll_30 rfl
theorem eX3_daysTillAll_33 : ev X m_X3_daysTillAll 33 [a0, a1, vI x] st mem = ev X m_X3_daysTillAll 34 [a0, a1, vI x] (vI x :: st) mem := ke_iload_n rfl dX3_daysTillAll_33
theorem eX3_daysTillAll_34 : ev X m_X3_daysTillAll 34 [a0, a1, a2] [vI x] mem = some (some (vI x), mem) := ke_ireturn dX3_daysTillAll_34 rfl
theorem eX3_daysTillAll_35 : ev X m_X3_daysTillAll 35 [vR r, a1, a2] st mem = ev X m_X3_daysTillAll 36 [vR r, a1, a2] (vR r :: st) mem := ke_aload_n rfl dX3_daysTillAll_35
theorem eX3_daysTillAll_36 : ev X m_X3_daysTillAll 36 [a0, a1, a2] (vR r :: st) mem = evb X (fget mem r 3 0) m_X3_daysTillAll 39 [a0, a1, a2] st mem := ke_getf rfl dX3_daysTillAll_36
theorem eX3_daysTillAll_39 : ev X m_X3_daysTillAll 39 [a0, a1, a2] st mem = ev X m_X3_daysTillAll 40 [a0, a1, a2] (vI 0 :: st) mem := ke_iconst (by decide) dX3_daysTillAll_39
theorem eX3_daysTillAll_40 : ev X m_X3_daysTillAll 40 [a0, a1, a2] (vI n0 :: vR r :: []) mem = evc X (gR mem r 0 (ev X m_X0_passDay 0 [vR r, vI n0] [] mem)) m_X3_daysTillAll 43 [a0, a1, a2] [] := ke_callV (m' := m_X0_passDay) (as := [vI n0]) (n := 1) (rest := []) dX3_daysTillAll_40 rfl rfl rfl rfl rfl rfl (Nat.le_of_ble_eq_true rfl) (Nat.le_of_ble_eq_true rfl) (Nat.le_of_ble_eq_true rfl) rfl
theorem eX3_daysTillAll_43 : ev X m_X3_daysTillAll 43 [a0, a1, vI x] st mem = ev X m_X3_daysTillAll 46 [a0, a1, vI (w32 (x + 1))] st mem := ke_iinc rfl (Nat.le_of_ble_eq_true rfl) rfl dX3_daysTillAll_43
theorem eX3_daysTillAll_46 : ev X m_X3_daysTillAll 46 [a0, a1, a2] st mem = ev X m_X3_daysTillAll 10 [a0, a1, a2] st mem := ke_goto dX3_daysTillAll_46 rfl
theorem eX3_daysTillAll_49 : ev X m_X3_daysTillAll 49 [a0, a1, a2] st mem = ev X m_X3_daysTillAll 51 [a0, a1, a2] (vI 100 :: st) mem := ke_bipush (by decide) dX3_daysTillAll_49
theorem eX3_daysTillAll_51 : ev X m_X3_daysTillAll 51 [a0, a1, a2] [vI x] mem = some (some (vI x), mem) := ke_ireturn dX3_daysTillAll_51 rfl
theorem eX3_firstBrought_0 : ev X m_X3_firstBrought 0 [vR r, a1, a2, a3] st mem = ev X m_X3_firstBrought 1 [vR r, a1, a2, a3] (vR r :: st) mem := ke_aload_n rfl dX3_firstBrought_0
theorem eX3_firstBrought_1 : ev X m_X3_firstBrought 1 [a0, a1, a2, a3] (vR r :: st) mem = evb X (fget mem r 3 0) m_X3_firstBrought 4 [a0, a1, a2, a3] st mem := ke_getf rfl dX3_firstBrought_1
theorem eX3_firstBrought_4 : ev X m_X3_firstBrought 4 [a0, vR r, a2, a3] st mem = ev X m_X3_firstBrought 5 [a0, vR r, a2, a3] (vR r :: st) mem := ke_aload_n rfl dX3_firstBrought_4
theorem eX3_firstBrought_5 : ev X m_X3_firstBrought 5 [a0, a1, a2, a3] (vR r0 :: vR r :: []) mem = evc X (gR mem r 0 (ev X m_X0_become 0 [vR r, vR r0] [] mem)) m_X3_firstBrought 8 [a0, a1, a2, a3] [] := ke_callV (m' := m_X0_become) (as := [vR r0]) (n := 1) (rest := []) dX3_firstBrought_5 rfl rfl rfl rfl rfl rfl (Nat.le_of_ble_eq_true rfl) (Nat.le_of_ble_eq_true rfl) (Nat.le_of_ble_eq_true rfl) rfl
theorem eX3_firstBrought_8 : ev X m_X3_firstBrought 8 [a0, a1, a2, a3] st mem = ev X m_X3_firstBrought 9 [a0, a1, a2, a3] (vI 1 :: st) mem := ke_iconst (by decide) dX3_firstBrought_8
theorem eX3_firstBrought_9 : ev X m_X3_firstBrought 9 [a0, a1, a2, a3] (vI x :: st) mem = ev X m_X3_firstBrought 10 [a0, a1, vI x, a3] st mem := ke_istore_n (Nat.le_of_ble_eq_true rfl) rfl dX3_firstBrought_9
theorem eX3_firstBrought_10 : ev X m_X3_firstBrought 10 [a0, a1, vI x, a3] st mem = ev X m_X3_firstBrought 11 [a0, a1, vI x, a3] (vI x :: st) mem := ke_iload_n rfl dX3_firstBrought_10
theorem eX3_firstBrought_11 : ev X m_X3_firstBrought 11 [a0, a1, a2, a3] st mem = ev X m_X3_firstBrought 13 [a0, a1, a2, a3] (vI 99 :: st) mem := ke_bipush (by decide) dX3_firstBrought_11
theorem eX3_firstBrought_13 : ev X m_X3_firstBrought 13 [a0, a1, a2, a3] (vI y :: vI x :: st) mem = if y < x then ev X m_X3_firstBrought 69 [a0, a1, a2, a3] st mem else ev X m_X3_firstBrought 16 [a0, a1, a2, a3] st mem := ke_icmp_gt dX3_firstBrought_13 rfl
theorem eX3_firstBrought_16 : ev X m_X3_firstBrought 16 [vR r, a1, a2, a3] st mem = ev X m_X3_firstBrought 17 [vR r, a1, a2, a3] (vR r :: st) mem := ke_aload_n rfl dX3_firstBrought_16
theorem eX3_firstBrought_17 : ev X m_X3_firstBrought 17 [a0, a1, a2, a3] (vR r :: st) mem = evb X (fget mem r 3 0) m_X3_firstBrought 20 [a0, a1, a2, a3] st mem := ke_getf rfl dX3_firstBrought_17
theorem eX3_firstBrought_20 : ev X m_X3_firstBrought 20 [a0, a1, a2, a3] st mem = ev X m_X3_firstBrought 21 [a0, a1, a2, a3] (vI 0 :: st) mem := ke_iconst (by decide) dX3_firstBrought_20
theorem eX3_firstBrought_21 : ev X m_X3_firstBrought 21 [a0, a1, a2, a3] (vI n0 :: vR r :: []) mem = evc X (gR mem r 0 (ev X m_X0_passDay 0 [vR r, vI n0] [] mem)) m_X3_firstBrought 24 [a0, a1, a2, a3] [] := ke_callV (m' := m_X0_passDay) (as := [vI n0]) (n := 1) (rest := []) dX3_firstBrought_21 rfl rfl rfl rfl rfl rfl (Nat.le_of_ble_eq_true rfl) (Nat.le_of_ble_eq_true rfl) (Nat.le_of_ble_eq_true rfl) rfl
theorem eX3_firstBrought_24 : ev X m_X3_firstBrought 24 [a0, a1, a2, a3] st mem = ev X m_X3_firstBrought 25 [a0, a1, a2, a3] (vI 0 :: st) mem := ke_iconst (by decide) dX3_firstBrought_24
theorem eX3_firstBrought_25 : ev X m_X3_firstBrought 25 [a0, a1, a2, a3] (vI x :: st) mem = ev X m_X3_firstBrought 26 [a0, a1, a2, vI x] st mem := ke_istore_n (Nat.le_of_ble_eq_true rfl) rfl dX3_firstBrought_25
theorem eX3_firstBrought_26 : ev X m_X3_firstBrought 26 [a0, a1, a2, vI x] st mem = ev X m_X3_firstBrought 27 [a0, a1, a2, vI x] (vI x :: st) mem := ke_iload_n rfl dX3_firstBrought_26
theorem eX3_firstBrought_27 : ev X m_X3_firstBrought 27 [a0, vR r, a2, a3] st mem = ev X m_X3_firstBrought 28 [a0, vR r, a2, a3] (vR r :: st) mem := ke_aload_n rfl dX3_firstBrought_27
theorem eX3_firstBrought_28 : ev X m_X3_firstBrought 28 [a0, a1, a2, a3] (vR r :: st) mem = evb X (fget mem r 0 1) m_X3_firstBrought 31 [a0, a1, a2, a3] st mem := ke_getf rfl dX3_firstBrought_28
theorem eX3_firstBrought_31 : ev X m_X3_firstBrought 31 [a0, a1, a2, a3] (vI y :: vI x :: st) mem = if x < y then ev X m_X3_firstBrought 34 [a0, a1, a2, a3] st mem else ev X m_X3_firstBrought 63 [a0, a1, a2, a3] st mem := ke_icmp_ge dX3_firstBrought_31 rfl
theorem eX3_firstBrought_34 : ev X m_X3_firstBrought 34 [a0, vR r, a2, a3] st mem = ev X m_X3_firstBrought 35 [a0, vR r, a2, a3] (vR r :: st) mem := ke_aload_n rfl dX3_firstBrought_34
theorem eX3_firstBrought_35 : ev X m_X3_firstBrought 35 [a0, a1, a2, vI x] st mem = ev X m_X3_firstBrought 36 [a0, a1, a2, vI x] (vI x :: st) mem := ke_iload_n rfl dX3_firstBrought_35
theorem eX3_firstBrought_36 : ev X m_X3_firstBrought 36 [a0, a1, a2, a3] (vI n0 :: vR r :: []) mem = evc X (gR mem r 0 (ev X m_X0_stateOf 0 [vR r, vI n0] [] mem)) m_X3_firstBrought 39 [a0, a1, a2, a3] [] := ke_callV (m' := m_X0_stateOf) (as := [vI n0]) (n := 1) (rest := []) dX3_firstBrought_36 rfl rfl rfl rfl rfl rfl (Nat.le_of_ble_eq_true rfl) (Nat.le_of_ble_eq_true rfl) (Nat.le_of_ble_eq_true rfl) rfl
theorem eX3_firstBrought_39 : ev X m_X3_firstBrought 39 [a0, a1, a2, a3] st mem = ev X m_X3_firstBrought 40 [a0, a1, a2, a3] (vI 2 :: st) mem := ke_iconst (by decide) dX3_firstBrought_39
theorem eX3_firstBrought_40 : ev X m_X3_firstBrought 40 [a0, a1, a2, a3] (vI y :: vI x :: st) mem = if x = y then ev X m_X3_firstBrought 57 [a0, a1, a2, a3] st mem else ev X m_X3_firstBrought 43 [a0, a1, a2, a3] st mem := ke_icmp_eq dX3_firstBrought_40 rfl
theorem eX3_firstBrought_43 : ev X m_X3_firstBrought 43 [vR r, a1, a2, a3] st mem = ev X m_X3_firstBrought 44 [vR r, a1, a2, a3] (vR r :: st) mem := ke_aload_n rfl dX3_firstBrought_43
theorem eX3_firstBrought_44 : ev X m_X3_firstBrought 44 [a0, a1, a2, a3] (vR r :: st) mem = evb X (fget mem r 3 0) m_X3_firstBrought 47 [a0, a1, a2, a3] st mem := ke_getf rfl dX3_firstBrought_44
theorem eX3_firstBrought_47 : ev X m_X3_firstBrought 47 [a0, a1, a2, vI x] st mem = ev X m_X3_firstBrought 48 [a0, a1, a2, vI x] (vI x :: st) mem := ke_iload_n rfl dX3_firstBrought_47
theorem eX3_firstBrought_48 : ev X m_X3_firstBrought 48 [a0, a1, a2, a3] (vI n0 :: vR r :: []) mem = evc X (gR mem r 0 (ev X m_X0_stateOf 0 [vR r, vI n0] [] mem)) m_X3_firstBrought 51 [a0, a1, a2, a3] [] := ke_callV (m' := m_X0_stateOf) (as := [vI n0]) (n := 1) (rest := []) dX3_firstBrought_48 rfl rfl rfl rfl rfl rfl (Nat.le_of_ble_eq_true rfl) (Nat.le_of_ble_eq_true rfl) (Nat.le_of_ble_eq_true rfl) rfl
theorem eX3_firstBrought_51 : ev X m_X3_firstBrought 51 [a0, a1, a2, a3] st mem = ev X m_X3_firstBrought 52 [a0, a1, a2, a3] (vI 2 :: st) mem := ke_iconst (by decide) dX3_firstBrought_51
theorem eX3_firstBrought_52 : ev X m_X3_firstBrought 52 [a0, a1, a2, a3] (vI y :: vI x :: st) mem = if x = y then ev X m_X3_firstBrought 55 [a0, a1, a2, a3] st mem else ev X m_X3_firstBrought 57 [a0, a1, a2, a3] st mem := ke_icmp_ne dX3_firstBrought_52 rfl
theorem eX3_firstBrought_55 : ev X m_X3_firstBrought 55 [a0, a1, a2, vI x] st mem = ev X m_X3_firstBrought 56 [a0, a1, a2, vI x] (vI x :: st) mem := ke_iload_n rfl dX3_firstBrought_55
theorem eX3_firstBrought_56 : ev X m_X3_firstBrought 56 [a0, a1, a2, a3] [vI x] mem = some (some (vI x), mem) := ke_ireturn dX3_firstBrought_56 rfl
theorem eX3_firstBrought_57 : ev X m_X3_firstBrought 57 [a0, a1, a2, vI x] st mem = ev X m_X3_firstBrought 60 [a0, a1, a2, vI (w32 (x + 1))] st mem := ke_iinc rfl (Nat.le_of_ble_eq_true rfl) rfl dX3_firstBrought_57
theorem eX3_firstBrought_60 : ev X m_X3_firstBrought 60 [a0, a1, a2, a3] st mem = ev X m_X3_firstBrought 26 [a0, a1, a2, a3] st mem := ke_goto dX3_firstBrought_60 rfl
theorem eX3_firstBrought_63 : ev X m_X3_firstBrought 63 [a0, a1, vI x, a3] st mem = ev X m_X3_firstBrought 66 [a0, a1, vI (w32 (x + 1)), a3] st mem := ke_iinc rfl (Nat.le_of_ble_eq_true rfl) rfl dX3_firstBrought_63
theorem eX3_firstBrought_66 : ev X m_X3_firstBrought 66 [a0, a1, a2, a3] st mem = ev X m_X3_firstBrought 10 [a0, a1, a2, a3] st mem := ke_goto dX3_firstBrought_66 rfl
theorem eX3_firstBrought_69 : ev X m_X3_firstBrought 69 [a0, a1, a2, a3] st mem = ev X m_X3_firstBrought 71 [a0, a1, a2, a3] (vI (-9) :: st) mem := ke_bipush (by decide) dX3_firstBrought_69
theorem eX3_firstBrought_71 : ev X m_X3_firstBrought 71 [a0, a1, a2, a3] [vI x] mem = some (some (vI x), mem) := ke_ireturn dX3_firstBrought_71 rfl
theorem eX4_enemy_0 : ev X m_X4_enemy 0 [vR r, a1, a2, a3] st mem = ev X m_X4_enemy 1 [vR r, a1, a2, a3] (vR r :: st) mem := ke_aload_n rfl dX4_enemy_0
theorem eX4_enemy_1 : ev X m_X4_enemy 1 [a0, a1, a2, a3] (vR r :: st) mem = evb X (fget mem r 4 0) m_X4_enemy 4 [a0, a1, a2, a3] st mem := ke_getf rfl dX4_enemy_1
theorem eX4_enemy_4 : ev X m_X4_enemy 4 [a0, vI x, a2, a3] st mem = ev X m_X4_enemy 5 [a0, vI x, a2, a3] (vI x :: st) mem := ke_iload_n rfl dX4_enemy_4
theorem eX4_enemy_5 : ev X m_X4_enemy 5 [a0, a1, a2, a3] (vI n0 :: vR r :: []) mem = evc X (gR mem r 0 (ev X m_X0_hasPerson 0 [vR r, vI n0] [] mem)) m_X4_enemy 8 [a0, a1, a2, a3] [] := ke_callV (m' := m_X0_hasPerson) (as := [vI n0]) (n := 1) (rest := []) dX4_enemy_5 rfl rfl rfl rfl rfl rfl (Nat.le_of_ble_eq_true rfl) (Nat.le_of_ble_eq_true rfl) (Nat.le_of_ble_eq_true rfl) rfl
theorem eX4_enemy_8 : ev X m_X4_enemy 8 [a0, a1, a2, a3] (vI x :: st) mem = if x = 0 then ev X m_X4_enemy 11 [a0, a1, a2, a3] st mem else ev X m_X4_enemy 17 [a0, a1, a2, a3] st mem := ke_if_ne dX4_enemy_8 rfl
theorem eX4_enemy_11 : ev X m_X4_enemy 11 [vR r, a1, a2, a3] st mem = ev X m_X4_enemy 12 [vR r, a1, a2, a3] (vR r :: st) mem := ke_aload_n rfl dX4_enemy_11
theorem eX4_enemy_12 : ev X m_X4_enemy 12 [a0, a1, a2, a3] st mem = ev X m_X4_enemy 13 [a0, a1, a2, a3] (vI (-1) :: st) mem := ke_iconst (by decide) dX4_enemy_12
theorem eX4_enemy_13 : ev X m_X4_enemy 13 [a0, a1, a2, a3] (vI n0 :: vR r :: []) mem = evc X (gR mem r 4 (ev X m_X4_refuse 0 [vR r, vI n0] [] mem)) m_X4_enemy 16 [a0, a1, a2, a3] [] := ke_callV (m' := m_X4_refuse) (as := [vI n0]) (n := 1) (rest := []) dX4_enemy_13 rfl rfl rfl rfl rfl rfl (Nat.le_of_ble_eq_true rfl) (Nat.le_of_ble_eq_true rfl) (Nat.le_of_ble_eq_true rfl) rfl
theorem eX4_enemy_16 : ev X m_X4_enemy 16 [a0, a1, a2, a3] [vI x] mem = some (some (vI x), mem) := ke_ireturn dX4_enemy_16 rfl
theorem eX4_enemy_17 : ev X m_X4_enemy 17 [a0, a1, vI x, a3] st mem = ev X m_X4_enemy 18 [a0, a1, vI x, a3] (vI x :: st) mem := ke_iload_n rfl dX4_enemy_17
theorem eX4_enemy_18 : ev X m_X4_enemy 18 [a0, a1, a2, a3] (vI x :: st) mem = if x < 0 then ev X m_X4_enemy 26 [a0, a1, a2, a3] st mem else ev X m_X4_enemy 21 [a0, a1, a2, a3] st mem := ke_if_lt dX4_enemy_18 rfl
theorem eX4_enemy_21 : ev X m_X4_enemy 21 [a0, a1, vI x, a3] st mem = ev X m_X4_enemy 22 [a0, a1, vI x, a3] (vI x :: st) mem := ke_iload_n rfl dX4_enemy_21
theorem eX4_enemy_22 : ev X m_X4_enemy 22 [a0, a1, a2, a3] st mem = ev X m_X4_enemy 23 [a0, a1, a2, a3] (vI 1 :: st) mem := ke_iconst (by decide) dX4_enemy_22
theorem eX4_enemy_23 : ev X m_X4_enemy 23 [a0, a1, a2, a3] (vI y :: vI x :: st) mem = if y < x then ev X m_X4_enemy 26 [a0, a1, a2, a3] st mem else ev X m_X4_enemy 33 [a0, a1, a2, a3] st mem := ke_icmp_le dX4_enemy_23 rfl
theorem eX4_enemy_26 : ev X m_X4_enemy 26 [vR r, a1, a2, a3] st mem = ev X m_X4_enemy 27 [vR r, a1, a2, a3] (vR r :: st) mem := ke_aload_n rfl dX4_enemy_26
theorem eX4_enemy_27 : ev X m_X4_enemy 27 [a0, a1, a2, a3] st mem = ev X m_X4_enemy 29 [a0, a1, a2, a3] (vI (-2) :: st) mem := ke_bipush (by decide) dX4_enemy_27
theorem eX4_enemy_29 : ev X m_X4_enemy 29 [a0, a1, a2, a3] (vI n0 :: vR r :: []) mem = evc X (gR mem r 4 (ev X m_X4_refuse 0 [vR r, vI n0] [] mem)) m_X4_enemy 32 [a0, a1, a2, a3] [] := ke_callV (m' := m_X4_refuse) (as := [vI n0]) (n := 1) (rest := []) dX4_enemy_29 rfl rfl rfl rfl rfl rfl (Nat.le_of_ble_eq_true rfl) (Nat.le_of_ble_eq_true rfl) (Nat.le_of_ble_eq_true rfl) rfl
theorem eX4_enemy_32 : ev X m_X4_enemy 32 [a0, a1, a2, a3] [vI x] mem = some (some (vI x), mem) := ke_ireturn dX4_enemy_32 rfl
theorem eX4_enemy_33 : ev X m_X4_enemy 33 [vR r, a1, a2, a3] st mem = ev X m_X4_enemy 34 [vR r, a1, a2, a3] (vR r :: st) mem := ke_aload_n rfl dX4_enemy_33
theorem eX4_enemy_34 : ev X m_X4_enemy 34 [a0, a1, a2, a3] (vR r :: st) mem = evb X (fget mem r 4 0) m_X4_enemy 37 [a0, a1, a2, a3] st mem := ke_getf rfl dX4_enemy_34
theorem eX4_enemy_37 : ev X m_X4_enemy 37 [a0, vI x, a2, a3] st mem = ev X m_X4_enemy 38 [a0, vI x, a2, a3] (vI x :: st) mem := ke_iload_n rfl dX4_enemy_37
theorem eX4_enemy_38 : ev X m_X4_enemy 38 [a0, a1, a2, a3] st mem = ev X m_X4_enemy 40 [a0, a1, a2, a3] (vI (-9) :: st) mem := ke_bipush (by decide) dX4_enemy_38
theorem eX4_enemy_40 : ev X m_X4_enemy 40 [a0, a1, a2, a3] (vI n1 :: vI n0 :: vR r :: []) mem = evc X (gR mem r 0 (ev X m_X0_enemyOf 0 [vR r, vI n0, vI n1, vS, vS, vS, vS] [] mem)) m_X4_enemy 43 [a0, a1, a2, a3] [] := ke_callV (m' := m_X0_enemyOf) (as := [vI n0, vI n1]) (n := 2) (rest := []) dX4_enemy_40 rfl rfl rfl rfl rfl rfl (Nat.le_of_ble_eq_true rfl) (Nat.le_of_ble_eq_true rfl) (Nat.le_of_ble_eq_true rfl) rfl
theorem eX4_enemy_43 : ev X m_X4_enemy 43 [a0, a1, a2, a3] (vI x :: st) mem = ev X m_X4_enemy 44 [a0, a1, a2, vI x] st mem := ke_istore_n (Nat.le_of_ble_eq_true rfl) rfl dX4_enemy_43
theorem eX4_enemy_44 : ev X m_X4_enemy 44 [a0, a1, vI x, a3] st mem = ev X m_X4_enemy 45 [a0, a1, vI x, a3] (vI x :: st) mem := ke_iload_n rfl dX4_enemy_44
theorem eX4_enemy_45 : ev X m_X4_enemy 45 [a0, a1, a2, a3] (vI x :: st) mem = if x = 0 then ev X m_X4_enemy 48 [a0, a1, a2, a3] st mem else ev X m_X4_enemy 52 [a0, a1, a2, a3] st mem := ke_if_ne dX4_enemy_45 rfl
theorem eX4_enemy_48 : ev X m_X4_enemy 48 [a0, a1, a2, vI x] st mem = ev X m_X4_enemy 49 [a0, a1, a2, vI x] (vI x :: st) mem := ke_iload_n rfl dX4_enemy_48
theorem eX4_enemy_49 : ev X m_X4_enemy 49 [a0, a1, a2, a3] st mem = ev X m_X4_enemy 61 [a0, a1, a2, a3] st mem := ke_goto dX4_enemy_49 rfl
theorem eX4_enemy_52 : ev X m_X4_enemy 52 [vR r, a1, a2, a3] st mem = ev X m_X4_enemy 53 [vR r, a1, a2, a3] (vR r :: st) mem := ke_aload_n rfl dX4_enemy_52
theorem eX4_enemy_53 : ev X m_X4_enemy 53 [a0, a1, a2, a3] (vR r :: st) mem = evb X (fget mem r 4 0) m_X4_enemy 56 [a0, a1, a2, a3] st mem := ke_getf rfl dX4_enemy_53
theorem eX4_enemy_56 : ev X m_X4_enemy 56 [a0, vI x, a2, a3] st mem = ev X m_X4_enemy 57 [a0, vI x, a2, a3] (vI x :: st) mem := ke_iload_n rfl dX4_enemy_56
end ELEM
