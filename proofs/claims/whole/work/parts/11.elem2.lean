section ELEM
variable {X : List Int} {a0 a1 a2 a3 a4 a5 a6 a7 a8 a9 a10 a11 a12 a13 : AV} {st : List AV} {mem : AM} {x y n0 n1 n2 n3 n4 n5 n6 : Int} {s0 s1 s2 s3 : AV} {r r0 r1 r2 r3 r4 r5 : Nat}
theorem eX4_enemy_57 : ev X m_X4_enemy 57 [a0, a1, a2, vI x] st mem = ev X m_X4_enemy 58 [a0, a1, a2, vI x] (vI x :: st) mem := ke_iload_n rfl dX4_enemy_57
theorem eX4_enemy_58 : ev X m_X4_enemy 58 [a0, a1, a2, a3] (vI n1 :: vI n0 :: vR r :: []) mem = evc X (gR mem r 0 (ev X m_X0_enemyOf 0 [vR r, vI n0, vI n1, vS, vS, vS, vS] [] mem)) m_X4_enemy 61 [a0, a1, a2, a3] [] := ke_callV (m' := m_X0_enemyOf) (as := [vI n0, vI n1]) (n := 2) (rest := []) dX4_enemy_58 rfl rfl rfl rfl rfl rfl (Nat.le_of_ble_eq_true rfl) (Nat.le_of_ble_eq_true rfl) (Nat.le_of_ble_eq_true rfl) rfl
theorem eX4_enemy_61 : ev X m_X4_enemy 61 [a0, a1, a2, a3] [vI x] mem = some (some (vI x), mem) := ke_ireturn dX4_enemy_61 rfl
theorem eX4_malice_0 : ev X m_X4_malice 0 [vR r, a1, a2] st mem = ev X m_X4_malice 1 [vR r, a1, a2] (vR r :: st) mem := ke_aload_n rfl dX4_malice_0
theorem eX4_malice_1 : ev X m_X4_malice 1 [a0, a1, a2] (vR r :: st) mem = evb X (fget mem r 4 0) m_X4_malice 4 [a0, a1, a2] st mem := ke_getf rfl dX4_malice_1
theorem eX4_malice_4 : ev X m_X4_malice 4 [a0, vI x, a2] st mem = ev X m_X4_malice 5 [a0, vI x, a2] (vI x :: st) mem := ke_iload_n rfl dX4_malice_4
theorem eX4_malice_5 : ev X m_X4_malice 5 [a0, a1, vI x] st mem = ev X m_X4_malice 6 [a0, a1, vI x] (vI x :: st) mem := ke_iload_n rfl dX4_malice_5
theorem eX4_malice_6 : ev X m_X4_malice 6 [a0, a1, a2] (vI n1 :: vI n0 :: vR r :: []) mem = evc X (gR mem r 0 (ev X m_X0_hasPair 0 [vR r, vI n0, vI n1] [] mem)) m_X4_malice 9 [a0, a1, a2] [] := ke_callV (m' := m_X0_hasPair) (as := [vI n0, vI n1]) (n := 2) (rest := []) dX4_malice_6 rfl rfl rfl rfl rfl rfl (Nat.le_of_ble_eq_true rfl) (Nat.le_of_ble_eq_true rfl) (Nat.le_of_ble_eq_true rfl) rfl
theorem eX4_malice_9 : ev X m_X4_malice 9 [a0, a1, a2] (vI x :: st) mem = if x = 0 then ev X m_X4_malice 12 [a0, a1, a2] st mem else ev X m_X4_malice 18 [a0, a1, a2] st mem := ke_if_ne dX4_malice_9 rfl
theorem eX4_malice_12 : ev X m_X4_malice 12 [vR r, a1, a2] st mem = ev X m_X4_malice 13 [vR r, a1, a2] (vR r :: st) mem := ke_aload_n rfl dX4_malice_12
theorem eX4_malice_13 : ev X m_X4_malice 13 [a0, a1, a2] st mem = ev X m_X4_malice 14 [a0, a1, a2] (vI (-1) :: st) mem := ke_iconst (by decide) dX4_malice_13
theorem eX4_malice_14 : ev X m_X4_malice 14 [a0, a1, a2] (vI n0 :: vR r :: []) mem = evc X (gR mem r 4 (ev X m_X4_refuse 0 [vR r, vI n0] [] mem)) m_X4_malice 17 [a0, a1, a2] [] := ke_callV (m' := m_X4_refuse) (as := [vI n0]) (n := 1) (rest := []) dX4_malice_14 rfl rfl rfl rfl rfl rfl (Nat.le_of_ble_eq_true rfl) (Nat.le_of_ble_eq_true rfl) (Nat.le_of_ble_eq_true rfl) rfl
theorem eX4_malice_17 : ev X m_X4_malice 17 [a0, a1, a2] [vI x] mem = some (some (vI x), mem) := ke_ireturn dX4_malice_17 rfl
theorem eX4_malice_18 : ev X m_X4_malice 18 [vR r, a1, a2] st mem = ev X m_X4_malice 19 [vR r, a1, a2] (vR r :: st) mem := ke_aload_n rfl dX4_malice_18
theorem eX4_malice_19 : ev X m_X4_malice 19 [a0, a1, a2] (vR r :: st) mem = evb X (fget mem r 4 0) m_X4_malice 22 [a0, a1, a2] st mem := ke_getf rfl dX4_malice_19
theorem eX4_malice_22 : ev X m_X4_malice 22 [a0, vI x, a2] st mem = ev X m_X4_malice 23 [a0, vI x, a2] (vI x :: st) mem := ke_iload_n rfl dX4_malice_22
theorem eX4_malice_23 : ev X m_X4_malice 23 [a0, a1, vI x] st mem = ev X m_X4_malice 24 [a0, a1, vI x] (vI x :: st) mem := ke_iload_n rfl dX4_malice_23
theorem eX4_malice_24 : ev X m_X4_malice 24 [a0, a1, a2] (vI n1 :: vI n0 :: vR r :: []) mem = evc X (gR mem r 0 (ev X m_X0_maliceOf 0 [vR r, vI n0, vI n1, vS, vS, vS, vS] [] mem)) m_X4_malice 27 [a0, a1, a2] [] := ke_callV (m' := m_X0_maliceOf) (as := [vI n0, vI n1]) (n := 2) (rest := []) dX4_malice_24 rfl rfl rfl rfl rfl rfl (Nat.le_of_ble_eq_true rfl) (Nat.le_of_ble_eq_true rfl) (Nat.le_of_ble_eq_true rfl) rfl
theorem eX4_malice_27 : ev X m_X4_malice 27 [a0, a1, a2] [vI x] mem = some (some (vI x), mem) := ke_ireturn dX4_malice_27 rfl
theorem eX4_loved_0 : ev X m_X4_loved 0 [a0, a1, a2] st mem = ev X m_X4_loved 1 [a0, a1, a2] (vI 0 :: st) mem := ke_iconst (by decide) dX4_loved_0
theorem eX4_loved_1 : ev X m_X4_loved 1 [a0, a1, a2] (vI x :: st) mem = ev X m_X4_loved 2 [a0, vI x, a2] st mem := ke_istore_n (Nat.le_of_ble_eq_true rfl) rfl dX4_loved_1
theorem eX4_loved_2 : ev X m_X4_loved 2 [a0, a1, a2] st mem = ev X m_X4_loved 3 [a0, a1, a2] (vI 0 :: st) mem := ke_iconst (by decide) dX4_loved_2
theorem eX4_loved_3 : ev X m_X4_loved 3 [a0, a1, a2] (vI x :: st) mem = ev X m_X4_loved 4 [a0, a1, vI x] st mem := ke_istore_n (Nat.le_of_ble_eq_true rfl) rfl dX4_loved_3
theorem eX4_loved_4 : ev X m_X4_loved 4 [a0, a1, vI x] st mem = ev X m_X4_loved 5 [a0, a1, vI x] (vI x :: st) mem := ke_iload_n rfl dX4_loved_4
theorem eX4_loved_5 : ev X m_X4_loved 5 [vR r, a1, a2] st mem = ev X m_X4_loved 6 [vR r, a1, a2] (vR r :: st) mem := ke_aload_n rfl dX4_loved_5
theorem eX4_loved_6 : ev X m_X4_loved 6 [a0, a1, a2] (vR r :: st) mem = evb X (fget mem r 4 0) m_X4_loved 9 [a0, a1, a2] st mem := ke_getf rfl dX4_loved_6
theorem eX4_loved_9 : ev X m_X4_loved 9 [a0, a1, a2] (vR r :: st) mem = evb X (fget mem r 0 0) m_X4_loved 12 [a0, a1, a2] st mem := ke_getf rfl dX4_loved_9
theorem eX4_loved_12 : ev X m_X4_loved 12 [a0, a1, a2] (vI y :: vI x :: st) mem = if x < y then ev X m_X4_loved 15 [a0, a1, a2] st mem else ev X m_X4_loved 42 [a0, a1, a2] st mem := ke_icmp_ge dX4_loved_12 rfl
theorem eX4_loved_15 : ev X m_X4_loved 15 [vR r, a1, a2] st mem = ev X m_X4_loved 16 [vR r, a1, a2] (vR r :: st) mem := ke_aload_n rfl dX4_loved_15
theorem eX4_loved_16 : ev X m_X4_loved 16 [a0, a1, a2] (vR r :: st) mem = evb X (fget mem r 4 0) m_X4_loved 19 [a0, a1, a2] st mem := ke_getf rfl dX4_loved_16
theorem eX4_loved_19 : ev X m_X4_loved 19 [a0, a1, vI x] st mem = ev X m_X4_loved 20 [a0, a1, vI x] (vI x :: st) mem := ke_iload_n rfl dX4_loved_19
theorem eX4_loved_20 : ev X m_X4_loved 20 [a0, a1, a2] st mem = ev X m_X4_loved 22 [a0, a1, a2] (vI (-9) :: st) mem := ke_bipush (by decide) dX4_loved_20
theorem eX4_loved_22 : ev X m_X4_loved 22 [a0, a1, a2] (vI n1 :: vI n0 :: vR r :: []) mem = evc X (gR mem r 0 (ev X m_X0_enemyOf 0 [vR r, vI n0, vI n1, vS, vS, vS, vS] [] mem)) m_X4_loved 25 [a0, a1, a2] [] := ke_callV (m' := m_X0_enemyOf) (as := [vI n0, vI n1]) (n := 2) (rest := []) dX4_loved_22 rfl rfl rfl rfl rfl rfl (Nat.le_of_ble_eq_true rfl) (Nat.le_of_ble_eq_true rfl) (Nat.le_of_ble_eq_true rfl) rfl
theorem eX4_loved_25 : ev X m_X4_loved 25 [a0, a1, a2] st mem = ev X m_X4_loved 27 [a0, a1, a2] (vI (-9) :: st) mem := ke_bipush (by decide) dX4_loved_25
theorem eX4_loved_27 : ev X m_X4_loved 27 [a0, a1, a2] (vI y :: vI x :: st) mem = if x = y then ev X m_X4_loved 30 [a0, a1, a2] st mem else ev X m_X4_loved 36 [a0, a1, a2] st mem := ke_icmp_ne dX4_loved_27 rfl
theorem eX4_loved_30 : ev X m_X4_loved 30 [a0, vI x, a2] st mem = ev X m_X4_loved 31 [a0, vI x, a2] (vI x :: st) mem := ke_iload_n rfl dX4_loved_30
theorem eX4_loved_31 : ev X m_X4_loved 31 [a0, a1, a2] st mem = ev X m_X4_loved 32 [a0, a1, a2] (vI 1 :: st) mem := ke_iconst (by decide) dX4_loved_31
theorem eX4_loved_32 : ev X m_X4_loved 32 [a0, a1, vI x] st mem = ev X m_X4_loved 33 [a0, a1, vI x] (vI x :: st) mem := ke_iload_n rfl dX4_loved_32
theorem eX4_loved_33 : ev X m_X4_loved 33 [a0, a1, a2] (vI y :: vI x :: st) mem = ev X m_X4_loved 34 [a0, a1, a2] (vI (shl32 x y) :: st) mem := ke_ishl dX4_loved_33
theorem eX4_loved_34 : ev X m_X4_loved 34 [a0, a1, a2] (vI y :: vI x :: st) mem = ev X m_X4_loved 35 [a0, a1, a2] (vI (or32 x y) :: st) mem := ke_ior dX4_loved_34
theorem eX4_loved_35 : ev X m_X4_loved 35 [a0, a1, a2] (vI x :: st) mem = ev X m_X4_loved 36 [a0, vI x, a2] st mem := ke_istore_n (Nat.le_of_ble_eq_true rfl) rfl dX4_loved_35
theorem eX4_loved_36 : ev X m_X4_loved 36 [a0, a1, vI x] st mem = ev X m_X4_loved 39 [a0, a1, vI (w32 (x + 1))] st mem := ke_iinc rfl (Nat.le_of_ble_eq_true rfl) rfl dX4_loved_36
theorem eX4_loved_39 : ev X m_X4_loved 39 [a0, a1, a2] st mem = ev X m_X4_loved 4 [a0, a1, a2] st mem := ke_goto dX4_loved_39 rfl
theorem eX4_loved_42 : ev X m_X4_loved 42 [a0, vI x, a2] st mem = ev X m_X4_loved 43 [a0, vI x, a2] (vI x :: st) mem := ke_iload_n rfl dX4_loved_42
theorem eX4_loved_43 : ev X m_X4_loved 43 [a0, a1, a2] [vI x] mem = some (some (vI x), mem) := ke_ireturn dX4_loved_43 rfl
theorem eX4_busiest_0 : ev X m_X4_busiest 0 [a0, vI x, a2, a3, a4, a5] st mem = ev X m_X4_busiest 1 [a0, vI x, a2, a3, a4, a5] (vI x :: st) mem := ke_iload_n rfl dX4_busiest_0
theorem eX4_busiest_1 : ev X m_X4_busiest 1 [a0, a1, a2, a3, a4, a5] (vI x :: st) mem = if x < 0 then ev X m_X4_busiest 9 [a0, a1, a2, a3, a4, a5] st mem else ev X m_X4_busiest 4 [a0, a1, a2, a3, a4, a5] st mem := ke_if_lt dX4_busiest_1 rfl
theorem eX4_busiest_4 : ev X m_X4_busiest 4 [a0, vI x, a2, a3, a4, a5] st mem = ev X m_X4_busiest 5 [a0, vI x, a2, a3, a4, a5] (vI x :: st) mem := ke_iload_n rfl dX4_busiest_4
theorem eX4_busiest_5 : ev X m_X4_busiest 5 [a0, a1, a2, a3, a4, a5] st mem = ev X m_X4_busiest 6 [a0, a1, a2, a3, a4, a5] (vI 1 :: st) mem := ke_iconst (by decide) dX4_busiest_5
theorem eX4_busiest_6 : ev X m_X4_busiest 6 [a0, a1, a2, a3, a4, a5] (vI y :: vI x :: st) mem = if y < x then ev X m_X4_busiest 9 [a0, a1, a2, a3, a4, a5] st mem else ev X m_X4_busiest 16 [a0, a1, a2, a3, a4, a5] st mem := ke_icmp_le dX4_busiest_6 rfl
theorem eX4_busiest_9 : ev X m_X4_busiest 9 [vR r, a1, a2, a3, a4, a5] st mem = ev X m_X4_busiest 10 [vR r, a1, a2, a3, a4, a5] (vR r :: st) mem := ke_aload_n rfl dX4_busiest_9
theorem eX4_busiest_10 : ev X m_X4_busiest 10 [a0, a1, a2, a3, a4, a5] st mem = ev X m_X4_busiest 12 [a0, a1, a2, a3, a4, a5] (vI (-2) :: st) mem := ke_bipush (by decide) dX4_busiest_10
theorem eX4_busiest_12 : ev X m_X4_busiest 12 [a0, a1, a2, a3, a4, a5] (vI n0 :: vR r :: []) mem = evc X (gR mem r 4 (ev X m_X4_refuse 0 [vR r, vI n0] [] mem)) m_X4_busiest 15 [a0, a1, a2, a3, a4, a5] [] := ke_callV (m' := m_X4_refuse) (as := [vI n0]) (n := 1) (rest := []) dX4_busiest_12 rfl rfl rfl rfl rfl rfl (Nat.le_of_ble_eq_true rfl) (Nat.le_of_ble_eq_true rfl) (Nat.le_of_ble_eq_true rfl) rfl
theorem eX4_busiest_15 : ev X m_X4_busiest 15 [a0, a1, a2, a3, a4, a5] [vI x] mem = some (some (vI x), mem) := ke_ireturn dX4_busiest_15 rfl
theorem eX4_busiest_16 : ev X m_X4_busiest 16 [a0, a1, a2, a3, a4, a5] st mem = ev X m_X4_busiest 18 [a0, a1, a2, a3, a4, a5] (vI (-9) :: st) mem := ke_bipush (by decide) dX4_busiest_16
theorem eX4_busiest_18 : ev X m_X4_busiest 18 [a0, a1, a2, a3, a4, a5] (vI x :: st) mem = ev X m_X4_busiest 19 [a0, a1, vI x, a3, a4, a5] st mem := ke_istore_n (Nat.le_of_ble_eq_true rfl) rfl dX4_busiest_18
theorem eX4_busiest_19 : ev X m_X4_busiest 19 [a0, a1, a2, a3, a4, a5] st mem = ev X m_X4_busiest 20 [a0, a1, a2, a3, a4, a5] (vI 0 :: st) mem := ke_iconst (by decide) dX4_busiest_19
theorem eX4_busiest_20 : ev X m_X4_busiest 20 [a0, a1, a2, a3, a4, a5] (vI x :: st) mem = ev X m_X4_busiest 21 [a0, a1, a2, vI x, a4, a5] st mem := ke_istore_n (Nat.le_of_ble_eq_true rfl) rfl dX4_busiest_20
theorem eX4_busiest_21 : ev X m_X4_busiest 21 [a0, a1, a2, a3, a4, a5] st mem = ev X m_X4_busiest 22 [a0, a1, a2, a3, a4, a5] (vI 0 :: st) mem := ke_iconst (by decide) dX4_busiest_21
theorem eX4_busiest_22 : ev X m_X4_busiest 22 [a0, a1, a2, a3, a4, a5] (vI x :: st) mem = ev X m_X4_busiest 24 [a0, a1, a2, a3, vI x, a5] st mem := ke_istore (Nat.le_of_ble_eq_true rfl) rfl dX4_busiest_22
theorem eX4_busiest_24 : ev X m_X4_busiest 24 [a0, a1, a2, a3, vI x, a5] st mem = ev X m_X4_busiest 26 [a0, a1, a2, a3, vI x, a5] (vI x :: st) mem := ke_iload rfl dX4_busiest_24
theorem eX4_busiest_26 : ev X m_X4_busiest 26 [vR r, a1, a2, a3, a4, a5] st mem = ev X m_X4_busiest 27 [vR r, a1, a2, a3, a4, a5] (vR r :: st) mem := ke_aload_n rfl dX4_busiest_26
theorem eX4_busiest_27 : ev X m_X4_busiest 27 [a0, a1, a2, a3, a4, a5] (vR r :: st) mem = evb X (fget mem r 4 0) m_X4_busiest 30 [a0, a1, a2, a3, a4, a5] st mem := ke_getf rfl dX4_busiest_27
theorem eX4_busiest_30 : ev X m_X4_busiest 30 [a0, a1, a2, a3, a4, a5] (vR r :: st) mem = evb X (fget mem r 0 0) m_X4_busiest 33 [a0, a1, a2, a3, a4, a5] st mem := ke_getf rfl dX4_busiest_30
theorem eX4_busiest_33 : ev X m_X4_busiest 33 [a0, a1, a2, a3, a4, a5] (vI y :: vI x :: st) mem = if x < y then ev X m_X4_busiest 36 [a0, a1, a2, a3, a4, a5] st mem else ev X m_X4_busiest 65 [a0, a1, a2, a3, a4, a5] st mem := ke_icmp_ge dX4_busiest_33 rfl
theorem eX4_busiest_36 : ev X m_X4_busiest 36 [vR r, a1, a2, a3, a4, a5] st mem = ev X m_X4_busiest 37 [vR r, a1, a2, a3, a4, a5] (vR r :: st) mem := ke_aload_n rfl dX4_busiest_36
theorem eX4_busiest_37 : ev X m_X4_busiest 37 [a0, a1, a2, a3, a4, a5] (vR r :: st) mem = evb X (fget mem r 4 0) m_X4_busiest 40 [a0, a1, a2, a3, a4, a5] st mem := ke_getf rfl dX4_busiest_37
theorem eX4_busiest_40 : ev X m_X4_busiest 40 [a0, a1, a2, a3, vI x, a5] st mem = ev X m_X4_busiest 42 [a0, a1, a2, a3, vI x, a5] (vI x :: st) mem := ke_iload rfl dX4_busiest_40
theorem eX4_busiest_42 : ev X m_X4_busiest 42 [a0, a1, a2, a3, a4, a5] (vI n0 :: vR r :: []) mem = evc X (gR mem r 0 (ev X m_X0_enemyOfHowMany 0 [vR r, vI n0, vS, vS] [] mem)) m_X4_busiest 45 [a0, a1, a2, a3, a4, a5] [] := ke_callV (m' := m_X0_enemyOfHowMany) (as := [vI n0]) (n := 1) (rest := []) dX4_busiest_42 rfl rfl rfl rfl rfl rfl (Nat.le_of_ble_eq_true rfl) (Nat.le_of_ble_eq_true rfl) (Nat.le_of_ble_eq_true rfl) rfl
theorem eX4_busiest_45 : ev X m_X4_busiest 45 [a0, a1, a2, a3, a4, a5] (vI x :: st) mem = ev X m_X4_busiest 47 [a0, a1, a2, a3, a4, vI x] st mem := ke_istore (Nat.le_of_ble_eq_true rfl) rfl dX4_busiest_45
theorem eX4_busiest_47 : ev X m_X4_busiest 47 [a0, a1, a2, a3, a4, vI x] st mem = ev X m_X4_busiest 49 [a0, a1, a2, a3, a4, vI x] (vI x :: st) mem := ke_iload rfl dX4_busiest_47
theorem eX4_busiest_49 : ev X m_X4_busiest 49 [a0, a1, a2, vI x, a4, a5] st mem = ev X m_X4_busiest 50 [a0, a1, a2, vI x, a4, a5] (vI x :: st) mem := ke_iload_n rfl dX4_busiest_49
theorem eX4_busiest_50 : ev X m_X4_busiest 50 [a0, a1, a2, a3, a4, a5] (vI y :: vI x :: st) mem = if y < x then ev X m_X4_busiest 53 [a0, a1, a2, a3, a4, a5] st mem else ev X m_X4_busiest 59 [a0, a1, a2, a3, a4, a5] st mem := ke_icmp_le dX4_busiest_50 rfl
theorem eX4_busiest_53 : ev X m_X4_busiest 53 [a0, a1, a2, a3, a4, vI x] st mem = ev X m_X4_busiest 55 [a0, a1, a2, a3, a4, vI x] (vI x :: st) mem := ke_iload rfl dX4_busiest_53
theorem eX4_busiest_55 : ev X m_X4_busiest 55 [a0, a1, a2, a3, a4, a5] (vI x :: st) mem = ev X m_X4_busiest 56 [a0, a1, a2, vI x, a4, a5] st mem := ke_istore_n (Nat.le_of_ble_eq_true rfl) rfl dX4_busiest_55
theorem eX4_busiest_56 : ev X m_X4_busiest 56 [a0, a1, a2, a3, vI x, a5] st mem = ev X m_X4_busiest 58 [a0, a1, a2, a3, vI x, a5] (vI x :: st) mem := ke_iload rfl dX4_busiest_56
theorem eX4_busiest_58 : ev X m_X4_busiest 58 [a0, a1, a2, a3, a4, a5] (vI x :: st) mem = ev X m_X4_busiest 59 [a0, a1, vI x, a3, a4, a5] st mem := ke_istore_n (Nat.le_of_ble_eq_true rfl) rfl dX4_busiest_58
theorem eX4_busiest_59 : ev X m_X4_busiest 59 [a0, a1, a2, a3, vI x, a5] st mem = ev X m_X4_busiest 62 [a0, a1, a2, a3, vI (w32 (x + 1)), a5] st mem := ke_iinc rfl (Nat.le_of_ble_eq_true rfl) rfl dX4_busiest_59
theorem eX4_busiest_62 : ev X m_X4_busiest 62 [a0, a1, a2, a3, a4, a5] st mem = ev X m_X4_busiest 24 [a0, a1, a2, a3, a4, a5] st mem := ke_goto dX4_busiest_62 rfl
theorem eX4_busiest_65 : ev X m_X4_busiest 65 [a0, vI x, a2, a3, a4, a5] st mem = ev X m_X4_busiest 66 [a0, vI x, a2, a3, a4, a5] (vI x :: st) mem := ke_iload_n rfl dX4_busiest_65
theorem eX4_busiest_66 : ev X m_X4_busiest 66 [a0, a1, a2, a3, a4, a5] (vI x :: st) mem = if x = 0 then ev X m_X4_busiest 69 [a0, a1, a2, a3, a4, a5] st mem else ev X m_X4_busiest 73 [a0, a1, a2, a3, a4, a5] st mem := ke_if_ne dX4_busiest_66 rfl
theorem eX4_busiest_69 : ev X m_X4_busiest 69 [a0, a1, vI x, a3, a4, a5] st mem = ev X m_X4_busiest 70 [a0, a1, vI x, a3, a4, a5] (vI x :: st) mem := ke_iload_n rfl dX4_busiest_69
theorem eX4_busiest_70 : ev X m_X4_busiest 70 [a0, a1, a2, a3, a4, a5] st mem = ev X m_X4_busiest 74 [a0, a1, a2, a3, a4, a5] st mem := ke_goto dX4_busiest_70 rfl
theorem eX4_busiest_73 : ev X m_X4_busiest 73 [a0, a1, a2, vI x, a4, a5] st mem = ev X m_X4_busiest 74 [a0, a1, a2, vI x, a4, a5] (vI x :: st) mem := ke_iload_n rfl dX4_busiest_73
theorem eX4_busiest_74 : ev X m_X4_busiest 74 [a0, a1, a2, a3, a4, a5] [vI x] mem = some (some (vI x), mem) := ke_ireturn dX4_busiest_74 rfl
theorem eX0_enemyOfHowMany_0 : ev X m_X0_enemyOfHowMany 0 [a0, a1, a2, a3] st mem = ev X m_X0_enemyOfHowMany 1 [a0, a1, a2, a3] (vI 0 :: st) mem := ke_iconst (by decide) dX0_enemyOfHowMany_0
theorem eX0_enemyOfHowMany_1 : ev X m_X0_enemyOfHowMany 1 [a0, a1, a2, a3] (vI x :: st) mem = ev X m_X0_enemyOfHowMany 2 [a0, a1, vI x, a3] st mem := ke_istore_n (Nat.le_of_ble_eq_true rfl) rfl dX0_enemyOfHowMany_1
theorem eX0_enemyOfHowMany_2 : ev X m_X0_enemyOfHowMany 2 [a0, a1, a2, a3] st mem = ev X m_X0_enemyOfHowMany 3 [a0, a1, a2, a3] (vI 0 :: st) mem := ke_iconst (by decide) dX0_enemyOfHowMany_2
theorem eX0_enemyOfHowMany_3 : ev X m_X0_enemyOfHowMany 3 [a0, a1, a2, a3] (vI x :: st) mem = ev X m_X0_enemyOfHowMany 4 [a0, a1, a2, vI x] st mem := ke_istore_n (Nat.le_of_ble_eq_true rfl) rfl dX0_enemyOfHowMany_3
theorem eX0_enemyOfHowMany_4 : ev X m_X0_enemyOfHowMany 4 [a0, a1, a2, vI x] st mem = ev X m_X0_enemyOfHowMany 5 [a0, a1, a2, vI x] (vI x :: st) mem := ke_iload_n rfl dX0_enemyOfHowMany_4
theorem eX0_enemyOfHowMany_5 : ev X m_X0_enemyOfHowMany 5 [vR r, a1, a2, a3] st mem = ev X m_X0_enemyOfHowMany 6 [vR r, a1, a2, a3] (vR r :: st) mem := ke_aload_n rfl dX0_enemyOfHowMany_5
theorem eX0_enemyOfHowMany_6 : ev X m_X0_enemyOfHowMany 6 [a0, a1, a2, a3] (vR r :: st) mem = evb X (fget mem r 0 0) m_X0_enemyOfHowMany 9 [a0, a1, a2, a3] st mem := ke_getf rfl dX0_enemyOfHowMany_6
theorem eX0_enemyOfHowMany_9 : ev X m_X0_enemyOfHowMany 9 [a0, a1, a2, a3] (vI y :: vI x :: st) mem = if x < y then ev X m_X0_enemyOfHowMany 12 [a0, a1, a2, a3] st mem else ev X m_X0_enemyOfHowMany 32 [a0, a1, a2, a3] st mem := ke_icmp_ge dX0_enemyOfHowMany_9 rfl
theorem eX0_enemyOfHowMany_12 : ev X m_X0_enemyOfHowMany 12 [vR r, a1, a2, a3] st mem = ev X m_X0_enemyOfHowMany 13 [vR r, a1, a2, a3] (vR r :: st) mem := ke_aload_n rfl dX0_enemyOfHowMany_12
theorem eX0_enemyOfHowMany_13 : ev X m_X0_enemyOfHowMany 13 [a0, a1, a2, vI x] st mem = ev X m_X0_enemyOfHowMany 14 [a0, a1, a2, vI x] (vI x :: st) mem := ke_iload_n rfl dX0_enemyOfHowMany_13
theorem eX0_enemyOfHowMany_14 : ev X m_X0_enemyOfHowMany 14 [a0, a1, a2, a3] st mem = ev X m_X0_enemyOfHowMany 16 [a0, a1, a2, a3] (vI (-9) :: st) mem := ke_bipush (by decide) dX0_enemyOfHowMany_14
theorem eX0_enemyOfHowMany_16 : ev X m_X0_enemyOfHowMany 16 [a0, a1, a2, a3] (vI n1 :: vI n0 :: vR r :: []) mem = evc X (gR mem r 0 (ev X m_X0_enemyOf 0 [vR r, vI n0, vI n1, vS, vS, vS, vS] [] mem)) m_X0_enemyOfHowMany 19 [a0, a1, a2, a3] [] := ke_callV (m' := m_X0_enemyOf) (as := [vI n0, vI n1]) (n := 2) (rest := []) dX0_enemyOfHowMany_16 rfl rfl rfl rfl rfl rfl (Nat.le_of_ble_eq_true rfl) (Nat.le_of_ble_eq_true rfl) (Nat.le_of_ble_eq_true rfl) rfl
theorem eX0_enemyOfHowMany_19 : ev X m_X0_enemyOfHowMany 19 [a0, vI x, a2, a3] st mem = ev X m_X0_enemyOfHowMany 20 [a0, vI x, a2, a3] (vI x :: st) mem := ke_iload_n rfl dX0_enemyOfHowMany_19
theorem eX0_enemyOfHowMany_20 : ev X m_X0_enemyOfHowMany 20 [a0, a1, a2, a3] (vI y :: vI x :: st) mem = if x = y then ev X m_X0_enemyOfHowMany 23 [a0, a1, a2, a3] st mem else ev X m_X0_enemyOfHowMany 26 [a0, a1, a2, a3] st mem := ke_icmp_ne dX0_enemyOfHowMany_20 rfl
theorem eX0_enemyOfHowMany_23 : ev X m_X0_enemyOfHowMany 23 [a0, a1, vI x, a3] st mem = ev X m_X0_enemyOfHowMany 26 [a0, a1, vI (w32 (x + 1)), a3] st mem := ke_iinc rfl (Nat.le_of_ble_eq_true rfl) rfl dX0_enemyOfHowMany_23
theorem eX0_enemyOfHowMany_26 : ev X m_X0_enemyOfHowMany 26 [a0, a1, a2, vI x] st mem = ev X m_X0_enemyOfHowMany 29 [a0, a1, a2, vI (w32 (x + 1))] st mem := ke_iinc rfl (Nat.le_of_ble_eq_true rfl) rfl dX0_enemyOfHowMany_26
theorem eX0_enemyOfHowMany_29 : ev X m_X0_enemyOfHowMany 29 [a0, a1, a2, a3] st mem = ev X m_X0_enemyOfHowMany 4 [a0, a1, a2, a3] st mem := ke_goto dX0_enemyOfHowMany_29 rfl
theorem eX0_enemyOfHowMany_32 : ev X m_X0_enemyOfHowMany 32 [a0, a1, vI x, a3] st mem = ev X m_X0_enemyOfHowMany 33 [a0, a1, vI x, a3] (vI x :: st) mem := ke_iload_n rfl dX0_enemyOfHowMany_32
theorem eX0_enemyOfHowMany_33 : ev X m_X0_enemyOfHowMany 33 [a0, a1, a2, a3] [vI x] mem = some (some (vI x), mem) := ke_ireturn dX0_enemyOfHowMany_33 rfl
theorem eX4_ring_0 : ev X m_X4_ring 0 [vR r, a1, a2, a3, a4, a5, a6] st mem = ev X m_X4_ring 1 [vR r, a1, a2, a3, a4, a5, a6] (vR r :: st) mem := ke_aload_n rfl dX4_ring_0
theorem eX4_ring_1 : ev X m_X4_ring 1 [a0, a1, a2, a3, a4, a5, a6] (vR r :: st) mem = evb X (fget mem r 4 0) m_X4_ring 4 [a0, a1, a2, a3, a4, a5, a6] st mem := ke_getf rfl dX4_ring_1
theorem eX4_ring_4 : ev X m_X4_ring 4 [a0, vI x, a2, a3, a4, a5, a6] st mem = ev X m_X4_ring 5 [a0, vI x, a2, a3, a4, a5, a6] (vI x :: st) mem := ke_iload_n rfl dX4_ring_4
theorem eX4_ring_5 : ev X m_X4_ring 5 [a0, a1, a2, a3, a4, a5, a6] (vI n0 :: vR r :: []) mem = evc X (gR mem r 0 (ev X m_X0_hasPerson 0 [vR r, vI n0] [] mem)) m_X4_ring 8 [a0, a1, a2, a3, a4, a5, a6] [] := ke_callV (m' := m_X0_hasPerson) (as := [vI n0]) (n := 1) (rest := []) dX4_ring_5 rfl rfl rfl rfl rfl rfl (Nat.le_of_ble_eq_true rfl) (Nat.le_of_ble_eq_true rfl) (Nat.le_of_ble_eq_true rfl) rfl
theorem eX4_ring_8 : ev X m_X4_ring 8 [a0, a1, a2, a3, a4, a5, a6] (vI x :: st) mem = if x = 0 then ev X m_X4_ring 11 [a0, a1, a2, a3, a4, a5, a6] st mem else ev X m_X4_ring 17 [a0, a1, a2, a3, a4, a5, a6] st mem := ke_if_ne dX4_ring_8 rfl
theorem eX4_ring_11 : ev X m_X4_ring 11 [vR r, a1, a2, a3, a4, a5, a6] st mem = ev X m_X4_ring 12 [vR r, a1, a2, a3, a4, a5, a6] (vR r :: st) mem := ke_aload_n rfl dX4_ring_11
theorem eX4_ring_12 : ev X m_X4_ring 12 [a0, a1, a2, a3, a4, a5, a6] st mem = ev X m_X4_ring 13 [a0, a1, a2, a3, a4, a5, a6] (vI (-1) :: st) mem := ke_iconst (by decide) dX4_ring_12
theorem eX4_ring_13 : ev X m_X4_ring 13 [a0, a1, a2, a3, a4, a5, a6] (vI n0 :: vR r :: []) mem = evc X (gR mem r 4 (ev X m_X4_refuse 0 [vR r, vI n0] [] mem)) m_X4_ring 16 [a0, a1, a2, a3, a4, a5, a6] [] := ke_callV (m' := m_X4_refuse) (as := [vI n0]) (n := 1) (rest := []) dX4_ring_13 rfl rfl rfl rfl rfl rfl (Nat.le_of_ble_eq_true rfl) (Nat.le_of_ble_eq_true rfl) (Nat.le_of_ble_eq_true rfl) rfl
theorem eX4_ring_16 : ev X m_X4_ring 16 [a0, a1, a2, a3, a4, a5, a6] [vI x] mem = some (some (vI x), mem) := ke_ireturn dX4_ring_16 rfl
theorem eX4_ring_17 : ev X m_X4_ring 17 [a0, a1, vI x, a3, a4, a5, a6] st mem = ev X m_X4_ring 18 [a0, a1, vI x, a3, a4, a5, a6] (vI x :: st) mem := ke_iload_n rfl dX4_ring_17
theorem eX4_ring_18 : ev X m_X4_ring 18 [a0, a1, a2, a3, a4, a5, a6] (vI x :: st) mem = if x < 0 then ev X m_X4_ring 26 [a0, a1, a2, a3, a4, a5, a6] st mem else ev X m_X4_ring 21 [a0, a1, a2, a3, a4, a5, a6] st mem := ke_if_lt dX4_ring_18 rfl
theorem eX4_ring_21 : ev X m_X4_ring 21 [a0, a1, vI x, a3, a4, a5, a6] st mem = ev X m_X4_ring 22 [a0, a1, vI x, a3, a4, a5, a6] (vI x :: st) mem := ke_iload_n rfl dX4_ring_21
theorem eX4_ring_22 : ev X m_X4_ring 22 [a0, a1, a2, a3, a4, a5, a6] st mem = ev X m_X4_ring 23 [a0, a1, a2, a3, a4, a5, a6] (vI 1 :: st) mem := ke_iconst (by decide) dX4_ring_22
theorem eX4_ring_23 : ev X m_X4_ring 23 [a0, a1, a2, a3, a4, a5, a6] (vI y :: vI x :: st) mem = if y < x then ev X m_X4_ring 26 [a0, a1, a2, a3, a4, a5, a6] st mem else ev X m_X4_ring 33 [a0, a1, a2, a3, a4, a5, a6] st mem := ke_icmp_le dX4_ring_23 rfl
theorem eX4_ring_26 : ev X m_X4_ring 26 [vR r, a1, a2, a3, a4, a5, a6] st mem = ev X m_X4_ring 27 [vR r, a1, a2, a3, a4, a5, a6] (vR r :: st) mem := ke_aload_n rfl dX4_ring_26
theorem eX4_ring_27 : ev X m_X4_ring 27 [a0, a1, a2, a3, a4, a5, a6] st mem = ev X m_X4_ring 29 [a0, a1, a2, a3, a4, a5, a6] (vI (-2) :: st) mem := ke_bipush (by decide) dX4_ring_27
theorem eX4_ring_29 : ev X m_X4_ring 29 [a0, a1, a2, a3, a4, a5, a6] (vI n0 :: vR r :: []) mem = evc X (gR mem r 4 (ev X m_X4_refuse 0 [vR r, vI n0] [] mem)) m_X4_ring 32 [a0, a1, a2, a3, a4, a5, a6] [] := ke_callV (m' := m_X4_refuse) (as := [vI n0]) (n := 1) (rest := []) dX4_ring_29 rfl rfl rfl rfl rfl rfl (Nat.le_of_ble_eq_true rfl) (Nat.le_of_ble_eq_true rfl) (Nat.le_of_ble_eq_true rfl) rfl
theorem eX4_ring_32 : ev X m_X4_ring 32 [a0, a1, a2, a3, a4, a5, a6] [vI x] mem = some (some (vI x), mem) := ke_ireturn dX4_ring_32 rfl
theorem eX4_ring_33 : ev X m_X4_ring 33 [a0, a1, a2, a3, a4, a5, a6] st mem = ev X m_X4_ring 34 [a0, a1, a2, a3, a4, a5, a6] (vI 0 :: st) mem := ke_iconst (by decide) dX4_ring_33
theorem eX4_ring_34 : ev X m_X4_ring 34 [a0, a1, a2, a3, a4, a5, a6] (vI x :: st) mem = ev X m_X4_ring 35 [a0, a1, a2, vI x, a4, a5, a6] st mem := ke_istore_n (Nat.le_of_ble_eq_true rfl) rfl dX4_ring_34
theorem eX4_ring_35 : ev X m_X4_ring 35 [a0, a1, a2, a3, a4, a5, a6] st mem = ev X m_X4_ring 36 [a0, a1, a2, a3, a4, a5, a6] (vI 0 :: st) mem := ke_iconst (by decide) dX4_ring_35
theorem eX4_ring_36 : ev X m_X4_ring 36 [a0, a1, a2, a3, a4, a5, a6] (vI x :: st) mem = ev X m_X4_ring 38 [a0, a1, a2, a3, vI x, a5, a6] st mem := ke_istore (Nat.le_of_ble_eq_true rfl) rfl dX4_ring_36
theorem eX4_ring_38 : ev X m_X4_ring 38 [a0, vI x, a2, a3, a4, a5, a6] st mem = ev X m_X4_ring 39 [a0, vI x, a2, a3, a4, a5, a6] (vI x :: st) mem := ke_iload_n rfl dX4_ring_38
theorem eX4_ring_39 : ev X m_X4_ring 39 [a0, a1, a2, a3, a4, a5, a6] (vI x :: st) mem = ev X m_X4_ring 41 [a0, a1, a2, a3, a4, vI x, a6] st mem := ke_istore (Nat.le_of_ble_eq_true rfl) rfl dX4_ring_39
theorem eX4_ring_41 : ev X m_X4_ring 41 [a0, a1, a2, a3, a4, a5, a6] st mem = ev X m_X4_ring 42 [a0, a1, a2, a3, a4, a5, a6] (vI 0 :: st) mem := ke_iconst (by decide) dX4_ring_41
theorem eX4_ring_42 : ev X m_X4_ring 42 [a0, a1, a2, a3, a4, a5, a6] (vI x :: st) mem = ev X m_X4_ring 44 [a0, a1, a2, a3, a4, a5, vI x] st mem := ke_istore (Nat.le_of_ble_eq_true rfl) rfl dX4_ring_42
theorem eX4_ring_44 : ev X m_X4_ring 44 [a0, a1, a2, a3, a4, a5, vI x] st mem = ev X m_X4_ring 46 [a0, a1, a2, a3, a4, a5, vI x] (vI x :: st) mem := ke_iload rfl dX4_ring_44
theorem eX4_ring_46 : ev X m_X4_ring 46 [a0, a1, a2, a3, a4, a5, a6] st mem = ev X m_X4_ring 48 [a0, a1, a2, a3, a4, a5, a6] (vI 6 :: st) mem := ke_bipush (by decide) dX4_ring_46
theorem eX4_ring_48 : ev X m_X4_ring 48 [a0, a1, a2, a3, a4, a5, a6] (vI y :: vI x :: st) mem = if x < y then ev X m_X4_ring 51 [a0, a1, a2, a3, a4, a5, a6] st mem else ev X m_X4_ring 94 [a0, a1, a2, a3, a4, a5, a6] st mem := ke_icmp_ge dX4_ring_48 rfl
theorem eX4_ring_51 : ev X m_X4_ring 51 [a0, a1, a2, a3, a4, vI x, a6] st mem = ev X m_X4_ring 53 [a0, a1, a2, a3, a4, vI x, a6] (vI x :: st) mem := ke_iload rfl dX4_ring_51
theorem eX4_ring_53 : ev X m_X4_ring 53 [a0, a1, a2, a3, a4, a5, a6] (vI x :: st) mem = if x < 0 then ev X m_X4_ring 94 [a0, a1, a2, a3, a4, a5, a6] st mem else ev X m_X4_ring 56 [a0, a1, a2, a3, a4, a5, a6] st mem := ke_if_lt dX4_ring_53 rfl
theorem eX4_ring_56 : ev X m_X4_ring 56 [a0, a1, a2, vI x, a4, a5, a6] st mem = ev X m_X4_ring 57 [a0, a1, a2, vI x, a4, a5, a6] (vI x :: st) mem := ke_iload_n rfl dX4_ring_56
theorem eX4_ring_57 : ev X m_X4_ring 57 [a0, a1, a2, a3, a4, vI x, a6] st mem = ev X m_X4_ring 59 [a0, a1, a2, a3, a4, vI x, a6] (vI x :: st) mem := ke_iload rfl dX4_ring_57
theorem eX4_ring_59 : ev X m_X4_ring 59 [a0, a1, a2, a3, a4, a5, a6] (vI y :: vI x :: st) mem = ev X m_X4_ring 60 [a0, a1, a2, a3, a4, a5, a6] (vI (shr32 x y) :: st) mem := ke_ishr dX4_ring_59
theorem eX4_ring_60 : ev X m_X4_ring 60 [a0, a1, a2, a3, a4, a5, a6] st mem = ev X m_X4_ring 61 [a0, a1, a2, a3, a4, a5, a6] (vI 1 :: st) mem := ke_iconst (by decide) dX4_ring_60
theorem eX4_ring_61 : ev X m_X4_ring 61 [a0, a1, a2, a3, a4, a5, a6] (vI y :: vI x :: st) mem = ev X m_X4_ring 62 [a0, a1, a2, a3, a4, a5, a6] (vI (and32 x y) :: st) mem := ke_iand dX4_ring_61
theorem eX4_ring_62 : ev X m_X4_ring 62 [a0, a1, a2, a3, a4, a5, a6] (vI x :: st) mem = if x = 0 then ev X m_X4_ring 65 [a0, a1, a2, a3, a4, a5, a6] st mem else ev X m_X4_ring 94 [a0, a1, a2, a3, a4, a5, a6] st mem := ke_if_ne dX4_ring_62 rfl
theorem eX4_ring_65 : ev X m_X4_ring 65 [a0, a1, a2, vI x, a4, a5, a6] st mem = ev X m_X4_ring 66 [a0, a1, a2, vI x, a4, a5, a6] (vI x :: st) mem := ke_iload_n rfl dX4_ring_65
theorem eX4_ring_66 : ev X m_X4_ring 66 [a0, a1, a2, a3, a4, a5, a6] st mem = ev X m_X4_ring 67 [a0, a1, a2, a3, a4, a5, a6] (vI 1 :: st) mem := ke_iconst (by decide) dX4_ring_66
theorem eX4_ring_67 : ev X m_X4_ring 67 [a0, a1, a2, a3, a4, vI x, a6] st mem = ev X m_X4_ring 69 [a0, a1, a2, a3, a4, vI x, a6] (vI x :: st) mem := ke_iload rfl dX4_ring_67
theorem eX4_ring_69 : ev X m_X4_ring 69 [a0, a1, a2, a3, a4, a5, a6] (vI y :: vI x :: st) mem = ev X m_X4_ring 70 [a0, a1, a2, a3, a4, a5, a6] (vI (shl32 x y) :: st) mem := ke_ishl dX4_ring_69
theorem eX4_ring_70 : ev X m_X4_ring 70 [a0, a1, a2, a3, a4, a5, a6] (vI y :: vI x :: st) mem = ev X m_X4_ring 71 [a0, a1, a2, a3, a4, a5, a6] (vI (or32 x y) :: st) mem := ke_ior dX4_ring_70
theorem eX4_ring_71 : ev X m_X4_ring 71 [a0, a1, a2, a3, a4, a5, a6] (vI x :: st) mem = ev X m_X4_ring 72 [a0, a1, a2, vI x, a4, a5, a6] st mem := ke_istore_n (Nat.le_of_ble_eq_true rfl) rfl dX4_ring_71
theorem eX4_ring_72 : ev X m_X4_ring 72 [a0, a1, a2, a3, vI x, a5, a6] st mem = ev X m_X4_ring 75 [a0, a1, a2, a3, vI (w32 (x + 1)), a5, a6] st mem := ke_iinc rfl (Nat.le_of_ble_eq_true rfl) rfl dX4_ring_72
theorem eX4_ring_75 : ev X m_X4_ring 75 [vR r, a1, a2, a3, a4, a5, a6] st mem = ev X m_X4_ring 76 [vR r, a1, a2, a3, a4, a5, a6] (vR r :: st) mem := ke_aload_n rfl dX4_ring_75
theorem eX4_ring_76 : ev X m_X4_ring 76 [a0, a1, a2, a3, a4, a5, a6] (vR r :: st) mem = evb X (fget mem r 4 0) m_X4_ring 79 [a0, a1, a2, a3, a4, a5, a6] st mem := ke_getf rfl dX4_ring_76
theorem eX4_ring_79 : ev X m_X4_ring 79 [a0, a1, a2, a3, a4, vI x, a6] st mem = ev X m_X4_ring 81 [a0, a1, a2, a3, a4, vI x, a6] (vI x :: st) mem := ke_iload rfl dX4_ring_79
theorem eX4_ring_81 : ev X m_X4_ring 81 [a0, a1, a2, a3, a4, a5, a6] st mem = ev X m_X4_ring 83 [a0, a1, a2, a3, a4, a5, a6] (vI (-9) :: st) mem := ke_bipush (by decide) dX4_ring_81
theorem eX4_ring_83 : ev X m_X4_ring 83 [a0, a1, a2, a3, a4, a5, a6] (vI n1 :: vI n0 :: vR r :: []) mem = evc X (gR mem r 0 (ev X m_X0_enemyOf 0 [vR r, vI n0, vI n1, vS, vS, vS, vS] [] mem)) m_X4_ring 86 [a0, a1, a2, a3, a4, a5, a6] [] := ke_callV (m' := m_X0_enemyOf) (as := [vI n0, vI n1]) (n := 2) (rest := []) dX4_ring_83 rfl rfl rfl rfl rfl rfl (Nat.le_of_ble_eq_true rfl) (Nat.le_of_ble_eq_true rfl) (Nat.le_of_ble_eq_true rfl) rfl
theorem eX4_ring_86 : ev X m_X4_ring 86 [a0, a1, a2, a3, a4, a5, a6] (vI x :: st) mem = ev X m_X4_ring 88 [a0, a1, a2, a3, a4, vI x, a6] st mem := ke_istore (Nat.le_of_ble_eq_true rfl) rfl dX4_ring_86
theorem eX4_ring_88 : ev X m_X4_ring 88 [a0, a1, a2, a3, a4, a5, vI x] st mem = ev X m_X4_ring 91 [a0, a1, a2, a3, a4, a5, vI (w32 (x + 1))] st mem := ke_iinc rfl (Nat.le_of_ble_eq_true rfl) rfl dX4_ring_88
theorem eX4_ring_91 : ev X m_X4_ring 91 [a0, a1, a2, a3, a4, a5, a6] st mem = ev X m_X4_ring 44 [a0, a1, a2, a3, a4, a5, a6] st mem := ke_goto dX4_ring_91 rfl
theorem eX4_ring_94 : ev X m_X4_ring 94 [a0, a1, vI x, a3, a4, a5, a6] st mem = ev X m_X4_ring 95 [a0, a1, vI x, a3, a4, a5, a6] (vI x :: st) mem := ke_iload_n rfl dX4_ring_94
theorem eX4_ring_95 : ev X m_X4_ring 95 [a0, a1, a2, a3, a4, a5, a6] (vI x :: st) mem = if x = 0 then ev X m_X4_ring 98 [a0, a1, a2, a3, a4, a5, a6] st mem else ev X m_X4_ring 103 [a0, a1, a2, a3, a4, a5, a6] st mem := ke_if_ne dX4_ring_95 rfl
theorem eX4_ring_98 : ev X m_X4_ring 98 [a0, a1, a2, a3, vI x, a5, a6] st mem = ev X m_X4_ring 100 [a0, a1, a2, a3, vI x, a5, a6] (vI x :: st) mem := ke_iload rfl dX4_ring_98
theorem eX4_ring_100 : ev X m_X4_ring 100 [a0, a1, a2, a3, a4, a5, a6] st mem = ev X m_X4_ring 113 [a0, a1, a2, a3, a4, a5, a6] st mem := ke_goto dX4_ring_100 rfl
theorem eX4_ring_103 : ev X m_X4_ring 103 [a0, a1, a2, a3, a4, vI x, a6] st mem = ev X m_X4_ring 105 [a0, a1, a2, a3, a4, vI x, a6] (vI x :: st) mem := ke_iload rfl dX4_ring_103
theorem eX4_ring_105 : ev X m_X4_ring 105 [a0, a1, a2, a3, a4, a5, a6] (vI x :: st) mem = if x < 0 then ev X m_X4_ring 112 [a0, a1, a2, a3, a4, a5, a6] st mem else ev X m_X4_ring 108 [a0, a1, a2, a3, a4, a5, a6] st mem := ke_if_lt dX4_ring_105 rfl
theorem eX4_ring_108 : ev X m_X4_ring 108 [a0, a1, a2, a3, a4, a5, a6] st mem = ev X m_X4_ring 109 [a0, a1, a2, a3, a4, a5, a6] (vI 1 :: st) mem := ke_iconst (by decide) dX4_ring_108
theorem eX4_ring_109 : ev X m_X4_ring 109 [a0, a1, a2, a3, a4, a5, a6] st mem = ev X m_X4_ring 113 [a0, a1, a2, a3, a4, a5, a6] st mem := ke_goto dX4_ring_109 rfl
theorem eX4_ring_112 : ev X m_X4_ring 112 [a0, a1, a2, a3, a4, a5, a6] st mem = ev X m_X4_ring 113 [a0, a1, a2, a3, a4, a5, a6] (vI 0 :: st) mem := ke_iconst (by decide) dX4_ring_112
theorem eX4_ring_113 : ev X m_X4_ring 113 [a0, a1, a2, a3, a4, a5, a6] [vI x] mem = some (some (vI x), mem) := ke_ireturn dX4_ring_113 rfl
theorem eX4_slight_0 : ev X m_X4_slight 0 [vR r, a1, a2] st mem = ev X m_X4_slight 1 [vR r, a1, a2] (vR r :: st) mem := ke_aload_n rfl dX4_slight_0
theorem eX4_slight_1 : ev X m_X4_slight 1 [a0, vI x, a2] st mem = ev X m_X4_slight 2 [a0, vI x, a2] (vI x :: st) mem := ke_iload_n rfl dX4_slight_1
theorem eX4_slight_2 : ev X m_X4_slight 2 [a0, a1, a2] (vI n0 :: vR r :: []) mem = evc X (gR mem r 4 (ev X m_X4_notWaiting 0 [vR r, vI n0] [] mem)) m_X4_slight 5 [a0, a1, a2] [] := ke_callV (m' := m_X4_notWaiting) (as := [vI n0]) (n := 1) (rest := []) dX4_slight_2 rfl rfl rfl rfl rfl rfl (Nat.le_of_ble_eq_true rfl) (Nat.le_of_ble_eq_true rfl) (Nat.le_of_ble_eq_true rfl) rfl
theorem eX4_slight_5 : ev X m_X4_slight 5 [a0, a1, a2] (vI x :: st) mem = ev X m_X4_slight 6 [a0, a1, vI x] st mem := ke_istore_n (Nat.le_of_ble_eq_true rfl) rfl dX4_slight_5
theorem eX4_slight_6 : ev X m_X4_slight 6 [a0, a1, vI x] st mem = ev X m_X4_slight 7 [a0, a1, vI x] (vI x :: st) mem := ke_iload_n rfl dX4_slight_6
theorem eX4_slight_7 : ev X m_X4_slight 7 [a0, a1, a2] (vI x :: st) mem = if x = 0 then ev X m_X4_slight 18 [a0, a1, a2] st mem else ev X m_X4_slight 10 [a0, a1, a2] st mem := ke_if_eq dX4_slight_7 rfl
theorem eX4_slight_10 : ev X m_X4_slight 10 [vR r, a1, a2] st mem = ev X m_X4_slight 11 [vR r, a1, a2] (vR r :: st) mem := ke_aload_n rfl dX4_slight_10
theorem eX4_slight_11 : ev X m_X4_slight 11 [a0, a1, vI x] st mem = ev X m_X4_slight 12 [a0, a1, vI x] (vI x :: st) mem := ke_iload_n rfl dX4_slight_11
theorem eX4_slight_12 : ev X m_X4_slight 12 [a0, a1, a2] (vI n0 :: vR r :: []) mem = evc X (gR mem r 4 (ev X m_X4_refuse 0 [vR r, vI n0] [] mem)) m_X4_slight 15 [a0, a1, a2] [] := ke_callV (m' := m_X4_refuse) (as := [vI n0]) (n := 1) (rest := []) dX4_slight_12 rfl rfl rfl rfl rfl rfl (Nat.le_of_ble_eq_true rfl) (Nat.le_of_ble_eq_true rfl) (Nat.le_of_ble_eq_true rfl) rfl
theorem eX4_slight_15 : ev X m_X4_slight 15 [a0, a1, a2] st mem = ev X m_X4_slight 30 [a0, a1, a2] st mem := ke_goto dX4_slight_15 rfl
theorem eX4_slight_18 : ev X m_X4_slight 18 [vR r, a1, a2] st mem = ev X m_X4_slight 19 [vR r, a1, a2] (vR r :: st) mem := ke_aload_n rfl dX4_slight_18
theorem eX4_slight_19 : ev X m_X4_slight 19 [a0, a1, a2] (vR r :: st) mem = evb X (fget mem r 4 3) m_X4_slight 22 [a0, a1, a2] st mem := ke_getf rfl dX4_slight_19
theorem eX4_slight_22 : ev X m_X4_slight 22 [vR r, a1, a2] st mem = ev X m_X4_slight 23 [vR r, a1, a2] (vR r :: st) mem := ke_aload_n rfl dX4_slight_22
theorem eX4_slight_23 : ev X m_X4_slight 23 [a0, a1, a2] (vR r :: st) mem = evb X (fget mem r 4 0) m_X4_slight 26 [a0, a1, a2] st mem := ke_getf rfl dX4_slight_23
theorem eX4_slight_26 : ev X m_X4_slight 26 [a0, vI x, a2] st mem = ev X m_X4_slight 27 [a0, vI x, a2] (vI x :: st) mem := ke_iload_n rfl dX4_slight_26
theorem eX4_slight_27 : ev X m_X4_slight 27 [a0, a1, a2] (vI n1 :: vR r0 :: vR r :: []) mem = evc X (gR mem r 3 (ev X m_X3_bestSlight 0 [vR r, vR r0, vI n1, vS, vS, vS, vS, vS] [] mem)) m_X4_slight 30 [a0, a1, a2] [] := ke_callV (m' := m_X3_bestSlight) (as := [vR r0, vI n1]) (n := 2) (rest := []) dX4_slight_27 rfl rfl rfl rfl rfl rfl (Nat.le_of_ble_eq_true rfl) (Nat.le_of_ble_eq_true rfl) (Nat.le_of_ble_eq_true rfl) rfl
theorem eX4_slight_30 : ev X m_X4_slight 30 [a0, a1, a2] [vI x] mem = some (some (vI x), mem) := ke_ireturn dX4_slight_30 rfl
theorem eX4_notWaiting_0 : ev X m_X4_notWaiting 0 [vR r, a1] st mem = ev X m_X4_notWaiting 1 [vR r, a1] (vR r :: st) mem := ke_aload_n rfl dX4_notWaiting_0
theorem eX4_notWaiting_1 : ev X m_X4_notWaiting 1 [a0, a1] (vR r :: st) mem = evb X (fget mem r 4 0) m_X4_notWaiting 4 [a0, a1] st mem := ke_getf rfl dX4_notWaiting_1
theorem eX4_notWaiting_4 : ev X m_X4_notWaiting 4 [a0, vI x] st mem = ev X m_X4_notWaiting 5 [a0, vI x] (vI x :: st) mem := ke_iload_n rfl dX4_notWaiting_4
theorem eX4_notWaiting_5 : ev X m_X4_notWaiting 5 [a0, a1] (vI n0 :: vR r :: []) mem = evc X (gR mem r 0 (ev X m_X0_hasParcel 0 [vR r, vI n0] [] mem)) m_X4_notWaiting 8 [a0, a1] [] := ke_callV (m' := m_X0_hasParcel) (as := [vI n0]) (n := 1) (rest := []) dX4_notWaiting_5 rfl rfl rfl rfl rfl rfl (Nat.le_of_ble_eq_true rfl) (Nat.le_of_ble_eq_true rfl) (Nat.le_of_ble_eq_true rfl) rfl
theorem eX4_notWaiting_8 : ev X m_X4_notWaiting 8 [a0, a1] (vI x :: st) mem = if x = 0 then ev X m_X4_notWaiting 11 [a0, a1] st mem else ev X m_X4_notWaiting 13 [a0, a1] st mem := ke_if_ne dX4_notWaiting_8 rfl
theorem eX4_notWaiting_11 : ev X m_X4_notWaiting 11 [a0, a1] st mem = ev X m_X4_notWaiting 12 [a0, a1] (vI (-1) :: st) mem := ke_iconst (by decide) dX4_notWaiting_11
theorem eX4_notWaiting_12 : ev X m_X4_notWaiting 12 [a0, a1] [vI x] mem = some (some (vI x), mem) := ke_ireturn dX4_notWaiting_12 rfl
theorem eX4_notWaiting_13 : ev X m_X4_notWaiting 13 [vR r, a1] st mem = ev X m_X4_notWaiting 14 [vR r, a1] (vR r :: st) mem := ke_aload_n rfl dX4_notWaiting_13
theorem eX4_notWaiting_14 : ev X m_X4_notWaiting 14 [a0, a1] (vR r :: st) mem = evb X (fget mem r 4 0) m_X4_notWaiting 17 [a0, a1] st mem := ke_getf rfl dX4_notWaiting_14
theorem eX4_notWaiting_17 : ev X m_X4_notWaiting 17 [a0, vI x] st mem = ev X m_X4_notWaiting 18 [a0, vI x] (vI x :: st) mem := ke_iload_n rfl dX4_notWaiting_17
theorem eX4_notWaiting_18 : ev X m_X4_notWaiting 18 [a0, a1] (vI n0 :: vR r :: []) mem = evc X (gR mem r 0 (ev X m_X0_stateOf 0 [vR r, vI n0] [] mem)) m_X4_notWaiting 21 [a0, a1] [] := ke_callV (m' := m_X0_stateOf) (as := [vI n0]) (n := 1) (rest := []) dX4_notWaiting_18 rfl rfl rfl rfl rfl rfl (Nat.le_of_ble_eq_true rfl) (Nat.le_of_ble_eq_true rfl) (Nat.le_of_ble_eq_true rfl) rfl
theorem eX4_notWaiting_21 : ev X m_X4_notWaiting 21 [a0, a1] (vI x :: st) mem = if x = 0 then ev X m_X4_notWaiting 24 [a0, a1] st mem else ev X m_X4_notWaiting 28 [a0, a1] st mem := ke_if_ne dX4_notWaiting_21 rfl
theorem eX4_notWaiting_24 : ev X m_X4_notWaiting 24 [a0, a1] st mem = ev X m_X4_notWaiting 25 [a0, a1] (vI 0 :: st) mem := ke_iconst (by decide) dX4_notWaiting_24
theorem eX4_notWaiting_25 : ev X m_X4_notWaiting 25 [a0, a1] st mem = ev X m_X4_notWaiting 30 [a0, a1] st mem := ke_goto dX4_notWaiting_25 rfl
theorem eX4_notWaiting_28 : ev X m_X4_notWaiting 28 [a0, a1] st mem = ev X m_X4_notWaiting 30 [a0, a1] (vI (-3) :: st) mem := ke_bipush (by decide) dX4_notWaiting_28
theorem eX4_notWaiting_30 : ev X m_X4_notWaiting 30 [a0, a1] [vI x] mem = some (some (vI x), mem) := ke_ireturn dX4_notWaiting_30 rfl
theorem eX3_bestSlight_0 : ev X m_X3_bestSlight 0 [a0, vR r, a2, a3, a4, a5, a6, a7] st mem = ev X m_X3_bestSlight 1 [a0, vR r, a2, a3, a4, a5, a6, a7] (vR r :: st) mem := ke_aload_n rfl dX3_bestSlight_0
theorem eX3_bestSlight_1 : ev X m_X3_bestSlight 1 [a0, a1, vI x, a3, a4, a5, a6, a7] st mem = ev X m_X3_bestSlight 2 [a0, a1, vI x, a3, a4, a5, a6, a7] (vI x :: st) mem := ke_iload_n rfl dX3_bestSlight_1
theorem eX3_bestSlight_2 : ev X m_X3_bestSlight 2 [a0, a1, a2, a3, a4, a5, a6, a7] (vI n0 :: vR r :: []) mem = evc X (gR mem r 0 (ev X m_X0_receiverOf 0 [vR r, vI n0] [] mem)) m_X3_bestSlight 5 [a0, a1, a2, a3, a4, a5, a6, a7] [] := ke_callV (m' := m_X0_receiverOf) (as := [vI n0]) (n := 1) (rest := []) dX3_bestSlight_2 rfl rfl rfl rfl rfl rfl (Nat.le_of_ble_eq_true rfl) (Nat.le_of_ble_eq_true rfl) (Nat.le_of_ble_eq_true rfl) rfl
theorem eX3_bestSlight_5 : ev X m_X3_bestSlight 5 [a0, a1, a2, a3, a4, a5, a6, a7] (vI x :: st) mem = ev X m_X3_bestSlight 6 [a0, a1, a2, vI x, a4, a5, a6, a7] st mem := ke_istore_n (Nat.le_of_ble_eq_true rfl) rfl dX3_bestSlight_5
theorem eX3_bestSlight_6 : ev X m_X3_bestSlight 6 [vR r, a1, a2, a3, a4, a5, a6, a7] st mem = ev X m_X3_bestSlight 7 [vR r, a1, a2, a3, a4, a5, a6, a7] (vR r :: st) mem := ke_aload_n rfl dX3_bestSlight_6
theorem eX3_bestSlight_7 : ev X m_X3_bestSlight 7 [a0, a1, a2, a3, a4, a5, a6, a7] (vR r :: st) mem = evb X (fget mem r 3 0) m_X3_bestSlight 10 [a0, a1, a2, a3, a4, a5, a6, a7] st mem := ke_getf rfl dX3_bestSlight_7
theorem eX3_bestSlight_10 : ev X m_X3_bestSlight 10 [a0, vR r, a2, a3, a4, a5, a6, a7] st mem = ev X m_X3_bestSlight 11 [a0, vR r, a2, a3, a4, a5, a6, a7] (vR r :: st) mem := ke_aload_n rfl dX3_bestSlight_10
theorem eX3_bestSlight_11 : ev X m_X3_bestSlight 11 [a0, a1, a2, a3, a4, a5, a6, a7] (vR r0 :: vR r :: []) mem = evc X (gR mem r 0 (ev X m_X0_become 0 [vR r, vR r0] [] mem)) m_X3_bestSlight 14 [a0, a1, a2, a3, a4, a5, a6, a7] [] := ke_callV (m' := m_X0_become) (as := [vR r0]) (n := 1) (rest := []) dX3_bestSlight_11 rfl rfl rfl rfl rfl rfl (Nat.le_of_ble_eq_true rfl) (Nat.le_of_ble_eq_true rfl) (Nat.le_of_ble_eq_true rfl) rfl
theorem eX3_bestSlight_14 : ev X m_X3_bestSlight 14 [vR r, a1, a2, a3, a4, a5, a6, a7] st mem = ev X m_X3_bestSlight 15 [vR r, a1, a2, a3, a4, a5, a6, a7] (vR r :: st) mem := ke_aload_n rfl dX3_bestSlight_14
theorem eX3_bestSlight_15 : ev X m_X3_bestSlight 15 [a0, a1, a2, a3, a4, a5, a6, a7] (vR r :: st) mem = evb X (fget mem r 3 0) m_X3_bestSlight 18 [a0, a1, a2, a3, a4, a5, a6, a7] st mem := ke_getf rfl dX3_bestSlight_15
theorem eX3_bestSlight_18 : ev X m_X3_bestSlight 18 [a0, a1, vI x, a3, a4, a5, a6, a7] st mem = ev X m_X3_bestSlight 19 [a0, a1, vI x, a3, a4, a5, a6, a7] (vI x :: st) mem := ke_iload_n rfl dX3_bestSlight_18
theorem eX3_bestSlight_19 : ev X m_X3_bestSlight 19 [a0, a1, a2, a3, a4, a5, a6, a7] st mem = ev X m_X3_bestSlight 21 [a0, a1, a2, a3, a4, a5, a6, a7] (vI 99 :: st) mem := ke_bipush (by decide) dX3_bestSlight_19
theorem eX3_bestSlight_21 : ev X m_X3_bestSlight 21 [a0, a1, a2, a3, a4, a5, a6, a7] (vI n2 :: vI n1 :: vR r0 :: []) mem = evc X (ev X m_X4_daysTillBrought 0 [vR r0, vI n1, vI n2, vS] [] mem) m_X3_bestSlight 24 [a0, a1, a2, a3, a4, a5, a6, a7] [] := ke_callS (m' := m_X4_daysTillBrought) (as := [vR r0, vI n1, vI n2]) (n := 3) (rest := []) dX3_bestSlight_21 rfl (by decide) rfl rfl rfl rfl rfl (Nat.le_of_ble_eq_true rfl) (Nat.le_of_ble_eq_true rfl) rfl
theorem eX3_bestSlight_24 : ev X m_X3_bestSlight 24 [a0, a1, a2, a3, a4, a5, a6, a7] (vI x :: st) mem = ev X m_X3_bestSlight 26 [a0, a1, a2, a3, vI x, a5, a6, a7] st mem := ke_istore (Nat.le_of_ble_eq_true rfl) rfl dX3_bestSlight_24
theorem eX3_bestSlight_26 : ev X m_X3_bestSlight 26 [a0, a1, a2, a3, a4, a5, a6, a7] st mem = ev X m_X3_bestSlight 28 [a0, a1, a2, a3, a4, a5, a6, a7] (vI (-9) :: st) mem := ke_bipush (by decide) dX3_bestSlight_26
theorem eX3_bestSlight_28 : ev X m_X3_bestSlight 28 [a0, a1, a2, a3, a4, a5, a6, a7] (vI x :: st) mem = ev X m_X3_bestSlight 30 [a0, a1, a2, a3, a4, vI x, a6, a7] st mem := ke_istore (Nat.le_of_ble_eq_true rfl) rfl dX3_bestSlight_28
theorem eX3_bestSlight_30 : ev X m_X3_bestSlight 30 [a0, a1, a2, a3, a4, a5, a6, a7] st mem = ev X m_X3_bestSlight 31 [a0, a1, a2, a3, a4, a5, a6, a7] (vI 0 :: st) mem := ke_iconst (by decide) dX3_bestSlight_30
theorem eX3_bestSlight_31 : ev X m_X3_bestSlight 31 [a0, a1, a2, a3, a4, a5, a6, a7] (vI x :: st) mem = ev X m_X3_bestSlight 33 [a0, a1, a2, a3, a4, a5, vI x, a7] st mem := ke_istore (Nat.le_of_ble_eq_true rfl) rfl dX3_bestSlight_31
theorem eX3_bestSlight_33 : ev X m_X3_bestSlight 33 [a0, a1, a2, a3, a4, a5, vI x, a7] st mem = ev X m_X3_bestSlight 35 [a0, a1, a2, a3, a4, a5, vI x, a7] (vI x :: st) mem := ke_iload rfl dX3_bestSlight_33
theorem eX3_bestSlight_35 : ev X m_X3_bestSlight 35 [a0, vR r, a2, a3, a4, a5, a6, a7] st mem = ev X m_X3_bestSlight 36 [a0, vR r, a2, a3, a4, a5, a6, a7] (vR r :: st) mem := ke_aload_n rfl dX3_bestSlight_35
theorem eX3_bestSlight_36 : ev X m_X3_bestSlight 36 [a0, a1, a2, a3, a4, a5, a6, a7] (vR r :: st) mem = evb X (fget mem r 0 0) m_X3_bestSlight 39 [a0, a1, a2, a3, a4, a5, a6, a7] st mem := ke_getf rfl dX3_bestSlight_36
theorem eX3_bestSlight_39 : ev X m_X3_bestSlight 39 [a0, a1, a2, a3, a4, a5, a6, a7] (vI y :: vI x :: st) mem = if x < y then ev X m_X3_bestSlight 42 [a0, a1, a2, a3, a4, a5, a6, a7] st mem else ev X m_X3_bestSlight 105 [a0, a1, a2, a3, a4, a5, a6, a7] st mem := ke_icmp_ge dX3_bestSlight_39 rfl
theorem eX3_bestSlight_42 : ev X m_X3_bestSlight 42 [a0, a1, a2, a3, a4, a5, vI x, a7] st mem = ev X m_X3_bestSlight 44 [a0, a1, a2, a3, a4, a5, vI x, a7] (vI x :: st) mem := ke_iload rfl dX3_bestSlight_42
theorem eX3_bestSlight_44 : ev X m_X3_bestSlight 44 [a0, a1, a2, vI x, a4, a5, a6, a7] st mem = ev X m_X3_bestSlight 45 [a0, a1, a2, vI x, a4, a5, a6, a7] (vI x :: st) mem := ke_iload_n rfl dX3_bestSlight_44
theorem eX3_bestSlight_45 : ev X m_X3_bestSlight 45 [a0, a1, a2, a3, a4, a5, a6, a7] (vI y :: vI x :: st) mem = if x = y then ev X m_X3_bestSlight 48 [a0, a1, a2, a3, a4, a5, a6, a7] st mem else ev X m_X3_bestSlight 51 [a0, a1, a2, a3, a4, a5, a6, a7] st mem := ke_icmp_ne dX3_bestSlight_45 rfl
theorem eX3_bestSlight_48 : ev X m_X3_bestSlight 48 [a0, a1, a2, a3, a4, a5, a6, a7] st mem = ev X m_X3_bestSlight 99 [a0, a1, a2, a3, a4, a5, a6, a7] st mem := ke_goto dX3_bestSlight_48 rfl
theorem eX3_bestSlight_51 : ev X m_X3_bestSlight 51 [vR r, a1, a2, a3, a4, a5, a6, a7] st mem = ev X m_X3_bestSlight 52 [vR r, a1, a2, a3, a4, a5, a6, a7] (vR r :: st) mem := ke_aload_n rfl dX3_bestSlight_51
theorem eX3_bestSlight_52 : ev X m_X3_bestSlight 52 [a0, a1, a2, a3, a4, a5, a6, a7] (vR r :: st) mem = evb X (fget mem r 3 0) m_X3_bestSlight 55 [a0, a1, a2, a3, a4, a5, a6, a7] st mem := ke_getf rfl dX3_bestSlight_52
theorem eX3_bestSlight_55 : ev X m_X3_bestSlight 55 [a0, vR r, a2, a3, a4, a5, a6, a7] st mem = ev X m_X3_bestSlight 56 [a0, vR r, a2, a3, a4, a5, a6, a7] (vR r :: st) mem := ke_aload_n rfl dX3_bestSlight_55
theorem eX3_bestSlight_56 : ev X m_X3_bestSlight 56 [a0, a1, a2, a3, a4, a5, a6, a7] (vR r0 :: vR r :: []) mem = evc X (gR mem r 0 (ev X m_X0_become 0 [vR r, vR r0] [] mem)) m_X3_bestSlight 59 [a0, a1, a2, a3, a4, a5, a6, a7] [] := ke_callV (m' := m_X0_become) (as := [vR r0]) (n := 1) (rest := []) dX3_bestSlight_56 rfl rfl rfl rfl rfl rfl (Nat.le_of_ble_eq_true rfl) (Nat.le_of_ble_eq_true rfl) (Nat.le_of_ble_eq_true rfl) rfl
theorem eX3_bestSlight_59 : ev X m_X3_bestSlight 59 [vR r, a1, a2, a3, a4, a5, a6, a7] st mem = ev X m_X3_bestSlight 60 [vR r, a1, a2, a3, a4, a5, a6, a7] (vR r :: st) mem := ke_aload_n rfl dX3_bestSlight_59
theorem eX3_bestSlight_60 : ev X m_X3_bestSlight 60 [a0, a1, a2, a3, a4, a5, a6, a7] (vR r :: st) mem = evb X (fget mem r 3 0) m_X3_bestSlight 63 [a0, a1, a2, a3, a4, a5, a6, a7] st mem := ke_getf rfl dX3_bestSlight_60
theorem eX3_bestSlight_63 : ev X m_X3_bestSlight 63 [a0, a1, a2, a3, a4, a5, vI x, a7] st mem = ev X m_X3_bestSlight 65 [a0, a1, a2, a3, a4, a5, vI x, a7] (vI x :: st) mem := ke_iload rfl dX3_bestSlight_63
theorem eX3_bestSlight_65 : ev X m_X3_bestSlight 65 [a0, a1, a2, vI x, a4, a5, a6, a7] st mem = ev X m_X3_bestSlight 66 [a0, a1, a2, vI x, a4, a5, a6, a7] (vI x :: st) mem := ke_iload_n rfl dX3_bestSlight_65
theorem eX3_bestSlight_66 : ev X m_X3_bestSlight 66 [a0, a1, a2, a3, a4, a5, a6, a7] st mem = ev X m_X3_bestSlight 68 [a0, a1, a2, a3, a4, a5, a6, a7] (vI 10 :: st) mem := ke_bipush (by decide) dX3_bestSlight_66
theorem eX3_bestSlight_68 : ev X m_X3_bestSlight 68 [a0, a1, a2, a3, a4, a5, a6, a7] (vI n2 :: vI n1 :: vI n0 :: vR r :: []) mem = evc X (gR mem r 0 (ev X m_X0_addHate 0 [vR r, vI n0, vI n1, vI n2, vS] [] mem)) m_X3_bestSlight 71 [a0, a1, a2, a3, a4, a5, a6, a7] [] := ke_callV (m' := m_X0_addHate) (as := [vI n0, vI n1, vI n2]) (n := 3) (rest := []) dX3_bestSlight_68 rfl rfl rfl rfl rfl rfl (Nat.le_of_ble_eq_true rfl) (Nat.le_of_ble_eq_true rfl) (Nat.le_of_ble_eq_true rfl) rfl
theorem eX3_bestSlight_71 : ev X m_X3_bestSlight 71 [a0, a1, a2, a3, a4, a5, a6, a7] (vI x :: st) mem = ev X m_X3_bestSlight 72 [a0, a1, a2, a3, a4, a5, a6, a7] st mem := ke_popI dX3_bestSlight_71
theorem eX3_bestSlight_71r : ev X m_X3_bestSlight 71 [a0, a1, a2, a3, a4, a5, a6, a7] (vR r :: st) mem = ev X m_X3_bestSlight 72 [a0, a1, a2, a3, a4, a5, a6, a7] st mem := ke_popR dX3_bestSlight_71
theorem eX3_bestSlight_72 : ev X m_X3_bestSlight 72 [vR r, a1, a2, a3, a4, a5, a6, a7] st mem = ev X m_X3_bestSlight 73 [vR r, a1, a2, a3, a4, a5, a6, a7] (vR r :: st) mem := ke_aload_n rfl dX3_bestSlight_72
theorem eX3_bestSlight_73 : ev X m_X3_bestSlight 73 [a0, a1, a2, a3, a4, a5, a6, a7] (vR r :: st) mem = evb X (fget mem r 3 0) m_X3_bestSlight 76 [a0, a1, a2, a3, a4, a5, a6, a7] st mem := ke_getf rfl dX3_bestSlight_73
theorem eX3_bestSlight_76 : ev X m_X3_bestSlight 76 [a0, a1, vI x, a3, a4, a5, a6, a7] st mem = ev X m_X3_bestSlight 77 [a0, a1, vI x, a3, a4, a5, a6, a7] (vI x :: st) mem := ke_iload_n rfl dX3_bestSlight_76
theorem eX3_bestSlight_77 : ev X m_X3_bestSlight 77 [a0, a1, a2, a3, a4, a5, a6, a7] st mem = ev X m_X3_bestSlight 79 [a0, a1, a2, a3, a4, a5, a6, a7] (vI 99 :: st) mem := ke_bipush (by decide) dX3_bestSlight_77
theorem eX3_bestSlight_79 : ev X m_X3_bestSlight 79 [a0, a1, a2, a3, a4, a5, a6, a7] (vI n2 :: vI n1 :: vR r0 :: []) mem = evc X (ev X m_X4_daysTillBrought 0 [vR r0, vI n1, vI n2, vS] [] mem) m_X3_bestSlight 82 [a0, a1, a2, a3, a4, a5, a6, a7] [] := ke_callS (m' := m_X4_daysTillBrought) (as := [vR r0, vI n1, vI n2]) (n := 3) (rest := []) dX3_bestSlight_79 rfl (by decide) rfl rfl rfl rfl rfl (Nat.le_of_ble_eq_true rfl) (Nat.le_of_ble_eq_true rfl) rfl
theorem eX3_bestSlight_82 : ev X m_X3_bestSlight 82 [a0, a1, a2, a3, a4, a5, a6, a7] (vI x :: st) mem = ev X m_X3_bestSlight 84 [a0, a1, a2, a3, a4, a5, a6, vI x] st mem := ke_istore (Nat.le_of_ble_eq_true rfl) rfl dX3_bestSlight_82
theorem eX3_bestSlight_84 : ev X m_X3_bestSlight 84 [a0, a1, a2, a3, a4, a5, a6, vI x] st mem = ev X m_X3_bestSlight 86 [a0, a1, a2, a3, a4, a5, a6, vI x] (vI x :: st) mem := ke_iload rfl dX3_bestSlight_84
theorem eX3_bestSlight_86 : ev X m_X3_bestSlight 86 [a0, a1, a2, a3, vI x, a5, a6, a7] st mem = ev X m_X3_bestSlight 88 [a0, a1, a2, a3, vI x, a5, a6, a7] (vI x :: st) mem := ke_iload rfl dX3_bestSlight_86
theorem eX3_bestSlight_88 : ev X m_X3_bestSlight 88 [a0, a1, a2, a3, a4, a5, a6, a7] (vI y :: vI x :: st) mem = if x < y then ev X m_X3_bestSlight 91 [a0, a1, a2, a3, a4, a5, a6, a7] st mem else ev X m_X3_bestSlight 99 [a0, a1, a2, a3, a4, a5, a6, a7] st mem := ke_icmp_ge dX3_bestSlight_88 rfl
theorem eX3_bestSlight_91 : ev X m_X3_bestSlight 91 [a0, a1, a2, a3, a4, a5, a6, vI x] st mem = ev X m_X3_bestSlight 93 [a0, a1, a2, a3, a4, a5, a6, vI x] (vI x :: st) mem := ke_iload rfl dX3_bestSlight_91
theorem eX3_bestSlight_93 : ev X m_X3_bestSlight 93 [a0, a1, a2, a3, a4, a5, a6, a7] (vI x :: st) mem = ev X m_X3_bestSlight 95 [a0, a1, a2, a3, vI x, a5, a6, a7] st mem := ke_istore (Nat.le_of_ble_eq_true rfl) rfl dX3_bestSlight_93
theorem eX3_bestSlight_95 : ev X m_X3_bestSlight 95 [a0, a1, a2, a3, a4, a5, vI x, a7] st mem = ev X m_X3_bestSlight 97 [a0, a1, a2, a3, a4, a5, vI x, a7] (vI x :: st) mem := ke_iload rfl dX3_bestSlight_95
theorem eX3_bestSlight_97 : ev X m_X3_bestSlight 97 [a0, a1, a2, a3, a4, a5, a6, a7] (vI x :: st) mem = ev X m_X3_bestSlight 99 [a0, a1, a2, a3, a4, vI x, a6, a7] st mem := ke_istore (Nat.le_of_ble_eq_true rfl) rfl dX3_bestSlight_97
theorem eX3_bestSlight_99 : ev X m_X3_bestSlight 99 [a0, a1, a2, a3, a4, a5, vI x, a7] st mem = ev X m_X3_bestSlight 102 [a0, a1, a2, a3, a4, a5, vI (w32 (x + 1)), a7] st mem := ke_iinc rfl (Nat.le_of_ble_eq_true rfl) rfl dX3_bestSlight_99
theorem eX3_bestSlight_102 : ev X m_X3_bestSlight 102 [a0, a1, a2, a3, a4, a5, a6, a7] st mem = ev X m_X3_bestSlight 33 [a0, a1, a2, a3, a4, a5, a6, a7] st mem := ke_goto dX3_bestSlight_102 rfl
theorem eX3_bestSlight_105 : ev X m_X3_bestSlight 105 [a0, a1, a2, a3, a4, vI x, a6, a7] st mem = ev X m_X3_bestSlight 107 [a0, a1, a2, a3, a4, vI x, a6, a7] (vI x :: st) mem := ke_iload rfl dX3_bestSlight_105
theorem eX3_bestSlight_107 : ev X m_X3_bestSlight 107 [a0, a1, a2, a3, a4, a5, a6, a7] [vI x] mem = some (some (vI x), mem) := ke_ireturn dX3_bestSlight_107 rfl
theorem eX0_receiverOf_0 : ev X m_X0_receiverOf 0 [vR r, a1] st mem = ev X m_X0_receiverOf 1 [vR r, a1] (vR r :: st) mem := ke_aload_n rfl dX0_receiverOf_0
theorem eX0_receiverOf_1 : ev X m_X0_receiverOf 1 [a0, vI x] st mem = ev X m_X0_receiverOf 2 [a0, vI x] (vI x :: st) mem := ke_iload_n rfl dX0_receiverOf_1
theorem eX0_receiverOf_2 : ev X m_X0_receiverOf 2 [a0, a1] (vI n0 :: vR r :: []) mem = evc X (gR mem r 0 (ev X m_X0_hasParcel 0 [vR r, vI n0] [] mem)) m_X0_receiverOf 5 [a0, a1] [] := ke_callV (m' := m_X0_hasParcel) (as := [vI n0]) (n := 1) (rest := []) dX0_receiverOf_2 rfl rfl rfl rfl rfl rfl (Nat.le_of_ble_eq_true rfl) (Nat.le_of_ble_eq_true rfl) (Nat.le_of_ble_eq_true rfl) rfl
theorem eX0_receiverOf_5 : ev X m_X0_receiverOf 5 [a0, a1] (vI x :: st) mem = if x = 0 then ev X m_X0_receiverOf 17 [a0, a1] st mem else ev X m_X0_receiverOf 8 [a0, a1] st mem := ke_if_eq dX0_receiverOf_5 rfl
theorem eX0_receiverOf_8 : ev X m_X0_receiverOf 8 [vR r, a1] st mem = ev X m_X0_receiverOf 9 [vR r, a1] (vR r :: st) mem := ke_aload_n rfl dX0_receiverOf_8
theorem eX0_receiverOf_9 : ev X m_X0_receiverOf 9 [a0, a1] (vR r :: st) mem = evb X (fget mem r 0 8) m_X0_receiverOf 12 [a0, a1] st mem := ke_getf rfl dX0_receiverOf_9
theorem eX0_receiverOf_12 : ev X m_X0_receiverOf 12 [a0, vI x] st mem = ev X m_X0_receiverOf 13 [a0, vI x] (vI x :: st) mem := ke_iload_n rfl dX0_receiverOf_12
theorem eX0_receiverOf_13 : ev X m_X0_receiverOf 13 [a0, a1] (vI x :: vR r :: st) mem = evb X (aget mem r x) m_X0_receiverOf 14 [a0, a1] st mem := ke_iaload dX0_receiverOf_13
theorem eX0_receiverOf_14 : ev X m_X0_receiverOf 14 [a0, a1] st mem = ev X m_X0_receiverOf 19 [a0, a1] st mem := ke_goto dX0_receiverOf_14 rfl
theorem eX0_receiverOf_17 : ev X m_X0_receiverOf 17 [a0, a1] st mem = ev X m_X0_receiverOf 19 [a0, a1] (vI (-9) :: st) mem := ke_bipush (by decide) dX0_receiverOf_17
theorem eX0_receiverOf_19 : ev X m_X0_receiverOf 19 [a0, a1] [vI x] mem = some (some (vI x), mem) := ke_ireturn dX0_receiverOf_19 rfl
theorem eX4_cost_0 : ev X m_X4_cost 0 [vR r, a1, a2, a3] st mem = ev X m_X4_cost 1 [vR r, a1, a2, a3] (vR r :: st) mem := ke_aload_n rfl dX4_cost_0
theorem eX4_cost_1 : ev X m_X4_cost 1 [a0, a1, a2, a3] (vR r :: st) mem = evb X (fget mem r 4 0) m_X4_cost 4 [a0, a1, a2, a3] st mem := ke_getf rfl dX4_cost_1
theorem eX4_cost_4 : ev X m_X4_cost 4 [a0, vI x, a2, a3] st mem = ev X m_X4_cost 5 [a0, vI x, a2, a3] (vI x :: st) mem := ke_iload_n rfl dX4_cost_4
theorem eX4_cost_5 : ev X m_X4_cost 5 [a0, a1, a2, a3] (vI n0 :: vR r :: []) mem = evc X (gR mem r 0 (ev X m_X0_hasParcel 0 [vR r, vI n0] [] mem)) m_X4_cost 8 [a0, a1, a2, a3] [] := ke_callV (m' := m_X0_hasParcel) (as := [vI n0]) (n := 1) (rest := []) dX4_cost_5 rfl rfl rfl rfl rfl rfl (Nat.le_of_ble_eq_true rfl) (Nat.le_of_ble_eq_true rfl) (Nat.le_of_ble_eq_true rfl) rfl
theorem eX4_cost_8 : ev X m_X4_cost 8 [a0, a1, a2, a3] (vI x :: st) mem = if x = 0 then ev X m_X4_cost 11 [a0, a1, a2, a3] st mem else ev X m_X4_cost 17 [a0, a1, a2, a3] st mem := ke_if_ne dX4_cost_8 rfl
theorem eX4_cost_11 : ev X m_X4_cost 11 [vR r, a1, a2, a3] st mem = ev X m_X4_cost 12 [vR r, a1, a2, a3] (vR r :: st) mem := ke_aload_n rfl dX4_cost_11
theorem eX4_cost_12 : ev X m_X4_cost 12 [a0, a1, a2, a3] st mem = ev X m_X4_cost 13 [a0, a1, a2, a3] (vI (-1) :: st) mem := ke_iconst (by decide) dX4_cost_12
theorem eX4_cost_13 : ev X m_X4_cost 13 [a0, a1, a2, a3] (vI n0 :: vR r :: []) mem = evc X (gR mem r 4 (ev X m_X4_refuse 0 [vR r, vI n0] [] mem)) m_X4_cost 16 [a0, a1, a2, a3] [] := ke_callV (m' := m_X4_refuse) (as := [vI n0]) (n := 1) (rest := []) dX4_cost_13 rfl rfl rfl rfl rfl rfl (Nat.le_of_ble_eq_true rfl) (Nat.le_of_ble_eq_true rfl) (Nat.le_of_ble_eq_true rfl) rfl
theorem eX4_cost_16 : ev X m_X4_cost 16 [a0, a1, a2, a3] [vI x] mem = some (some (vI x), mem) := ke_ireturn dX4_cost_16 rfl
theorem eX4_cost_17 : ev X m_X4_cost 17 [a0, a1, vI x, a3] st mem = ev X m_X4_cost 18 [a0, a1, vI x, a3] (vI x :: st) mem := ke_iload_n rfl dX4_cost_17
theorem eX4_cost_18 : ev X m_X4_cost 18 [a0, a1, a2, a3] st mem = ev X m_X4_cost 19 [a0, a1, a2, a3] (vI 1 :: st) mem := ke_iconst (by decide) dX4_cost_18
theorem eX4_cost_19 : ev X m_X4_cost 19 [a0, a1, a2, a3] (vI y :: vI x :: st) mem = if x < y then ev X m_X4_cost 22 [a0, a1, a2, a3] st mem else ev X m_X4_cost 29 [a0, a1, a2, a3] st mem := ke_icmp_ge dX4_cost_19 rfl
theorem eX4_cost_22 : ev X m_X4_cost 22 [vR r, a1, a2, a3] st mem = ev X m_X4_cost 23 [vR r, a1, a2, a3] (vR r :: st) mem := ke_aload_n rfl dX4_cost_22
theorem eX4_cost_23 : ev X m_X4_cost 23 [a0, a1, a2, a3] st mem = ev X m_X4_cost 25 [a0, a1, a2, a3] (vI (-4) :: st) mem := ke_bipush (by decide) dX4_cost_23
theorem eX4_cost_25 : ev X m_X4_cost 25 [a0, a1, a2, a3] (vI n0 :: vR r :: []) mem = evc X (gR mem r 4 (ev X m_X4_refuse 0 [vR r, vI n0] [] mem)) m_X4_cost 28 [a0, a1, a2, a3] [] := ke_callV (m' := m_X4_refuse) (as := [vI n0]) (n := 1) (rest := []) dX4_cost_25 rfl rfl rfl rfl rfl rfl (Nat.le_of_ble_eq_true rfl) (Nat.le_of_ble_eq_true rfl) (Nat.le_of_ble_eq_true rfl) rfl
theorem eX4_cost_28 : ev X m_X4_cost 28 [a0, a1, a2, a3] [vI x] mem = some (some (vI x), mem) := ke_ireturn dX4_cost_28 rfl
theorem eX4_cost_29 : ev X m_X4_cost 29 [a0, a1, vI x, a3] st mem = ev X m_X4_cost 30 [a0, a1, vI x, a3] (vI x :: st) mem := ke_iload_n rfl dX4_cost_29
theorem eX4_cost_30 : ev X m_X4_cost 30 [a0, a1, a2, a3] st mem = ev X m_X4_cost 32 [a0, a1, a2, a3] (vI 60 :: st) mem := ke_bipush (by decide) dX4_cost_30
theorem eX4_cost_32 : ev X m_X4_cost 32 [a0, a1, a2, a3] (vI y :: vI x :: st) mem = if y < x then ev X m_X4_cost 35 [a0, a1, a2, a3] st mem else ev X m_X4_cost 42 [a0, a1, a2, a3] st mem := ke_icmp_le dX4_cost_32 rfl
theorem eX4_cost_35 : ev X m_X4_cost 35 [vR r, a1, a2, a3] st mem = ev X m_X4_cost 36 [vR r, a1, a2, a3] (vR r :: st) mem := ke_aload_n rfl dX4_cost_35
theorem eX4_cost_36 : ev X m_X4_cost 36 [a0, a1, a2, a3] st mem = ev X m_X4_cost 38 [a0, a1, a2, a3] (vI (-6) :: st) mem := ke_bipush (by decide) dX4_cost_36
theorem eX4_cost_38 : ev X m_X4_cost 38 [a0, a1, a2, a3] (vI n0 :: vR r :: []) mem = evc X (gR mem r 4 (ev X m_X4_refuse 0 [vR r, vI n0] [] mem)) m_X4_cost 41 [a0, a1, a2, a3] [] := ke_callV (m' := m_X4_refuse) (as := [vI n0]) (n := 1) (rest := []) dX4_cost_38 rfl rfl rfl rfl rfl rfl (Nat.le_of_ble_eq_true rfl) (Nat.le_of_ble_eq_true rfl) (Nat.le_of_ble_eq_true rfl) rfl
theorem eX4_cost_41 : ev X m_X4_cost 41 [a0, a1, a2, a3] [vI x] mem = some (some (vI x), mem) := ke_ireturn dX4_cost_41 rfl
theorem eX4_cost_42 : ev X m_X4_cost 42 [vR r, a1, a2, a3] st mem = ev X m_X4_cost 43 [vR r, a1, a2, a3] (vR r :: st) mem := ke_aload_n rfl dX4_cost_42
theorem eX4_cost_43 : ev X m_X4_cost 43 [a0, a1, a2, a3] (vR r :: st) mem = evb X (fget mem r 4 0) m_X4_cost 46 [a0, a1, a2, a3] st mem := ke_getf rfl dX4_cost_43
theorem eX4_cost_46 : ev X m_X4_cost 46 [a0, vI x, a2, a3] st mem = ev X m_X4_cost 47 [a0, vI x, a2, a3] (vI x :: st) mem := ke_iload_n rfl dX4_cost_46
theorem eX4_cost_47 : ev X m_X4_cost 47 [a0, a1, a2, a3] (vI n0 :: vR r :: []) mem = evc X (gR mem r 0 (ev X m_X0_stateOf 0 [vR r, vI n0] [] mem)) m_X4_cost 50 [a0, a1, a2, a3] [] := ke_callV (m' := m_X0_stateOf) (as := [vI n0]) (n := 1) (rest := []) dX4_cost_47 rfl rfl rfl rfl rfl rfl (Nat.le_of_ble_eq_true rfl) (Nat.le_of_ble_eq_true rfl) (Nat.le_of_ble_eq_true rfl) rfl
theorem eX4_cost_50 : ev X m_X4_cost 50 [a0, a1, a2, a3] (vI x :: st) mem = if x = 0 then ev X m_X4_cost 60 [a0, a1, a2, a3] st mem else ev X m_X4_cost 53 [a0, a1, a2, a3] st mem := ke_if_eq dX4_cost_50 rfl
theorem eX4_cost_53 : ev X m_X4_cost 53 [vR r, a1, a2, a3] st mem = ev X m_X4_cost 54 [vR r, a1, a2, a3] (vR r :: st) mem := ke_aload_n rfl dX4_cost_53
theorem eX4_cost_54 : ev X m_X4_cost 54 [a0, a1, a2, a3] st mem = ev X m_X4_cost 56 [a0, a1, a2, a3] (vI (-3) :: st) mem := ke_bipush (by decide) dX4_cost_54
theorem eX4_cost_56 : ev X m_X4_cost 56 [a0, a1, a2, a3] (vI n0 :: vR r :: []) mem = evc X (gR mem r 4 (ev X m_X4_refuse 0 [vR r, vI n0] [] mem)) m_X4_cost 59 [a0, a1, a2, a3] [] := ke_callV (m' := m_X4_refuse) (as := [vI n0]) (n := 1) (rest := []) dX4_cost_56 rfl rfl rfl rfl rfl rfl (Nat.le_of_ble_eq_true rfl) (Nat.le_of_ble_eq_true rfl) (Nat.le_of_ble_eq_true rfl) rfl
theorem eX4_cost_59 : ev X m_X4_cost 59 [a0, a1, a2, a3] [vI x] mem = some (some (vI x), mem) := ke_ireturn dX4_cost_59 rfl
theorem eX4_cost_60 : ev X m_X4_cost 60 [a0, a1, a2, a3] st mem = ev X m_X4_cost 61 [a0, a1, a2, a3] (vI 0 :: st) mem := ke_iconst (by decide) dX4_cost_60
theorem eX4_cost_61 : ev X m_X4_cost 61 [a0, a1, a2, a3] (vI x :: st) mem = ev X m_X4_cost 62 [a0, a1, a2, vI x] st mem := ke_istore_n (Nat.le_of_ble_eq_true rfl) rfl dX4_cost_61
theorem eX4_cost_62 : ev X m_X4_cost 62 [a0, a1, a2, vI x] st mem = ev X m_X4_cost 63 [a0, a1, a2, vI x] (vI x :: st) mem := ke_iload_n rfl dX4_cost_62
theorem eX4_cost_63 : ev X m_X4_cost 63 [a0, a1, a2, a3] st mem = ev X m_X4_cost 64 [a0, a1, a2, a3] (vI 3 :: st) mem := ke_iconst (by decide) dX4_cost_63
theorem eX4_cost_64 : ev X m_X4_cost 64 [a0, a1, a2, a3] (vI y :: vI x :: st) mem = if y < x then ev X m_X4_cost 92 [a0, a1, a2, a3] st mem else ev X m_X4_cost 67 [a0, a1, a2, a3] st mem := ke_icmp_gt dX4_cost_64 rfl
theorem eX4_cost_67 : ev X m_X4_cost 67 [vR r, a1, a2, a3] st mem = ev X m_X4_cost 68 [vR r, a1, a2, a3] (vR r :: st) mem := ke_aload_n rfl dX4_cost_67
theorem eX4_cost_68 : ev X m_X4_cost 68 [a0, a1, a2, a3] (vR r :: st) mem = evb X (fget mem r 4 3) m_X4_cost 71 [a0, a1, a2, a3] st mem := ke_getf rfl dX4_cost_68
theorem eX4_cost_71 : ev X m_X4_cost 71 [vR r, a1, a2, a3] st mem = ev X m_X4_cost 72 [vR r, a1, a2, a3] (vR r :: st) mem := ke_aload_n rfl dX4_cost_71
theorem eX4_cost_72 : ev X m_X4_cost 72 [a0, a1, a2, a3] (vR r :: st) mem = evb X (fget mem r 4 0) m_X4_cost 75 [a0, a1, a2, a3] st mem := ke_getf rfl dX4_cost_72
theorem eX4_cost_75 : ev X m_X4_cost 75 [a0, vI x, a2, a3] st mem = ev X m_X4_cost 76 [a0, vI x, a2, a3] (vI x :: st) mem := ke_iload_n rfl dX4_cost_75
theorem eX4_cost_76 : ev X m_X4_cost 76 [a0, a1, vI x, a3] st mem = ev X m_X4_cost 77 [a0, a1, vI x, a3] (vI x :: st) mem := ke_iload_n rfl dX4_cost_76
theorem eX4_cost_77 : ev X m_X4_cost 77 [a0, a1, a2, vI x] st mem = ev X m_X4_cost 78 [a0, a1, a2, vI x] (vI x :: st) mem := ke_iload_n rfl dX4_cost_77
theorem eX4_cost_78 : ev X m_X4_cost 78 [a0, a1, a2, a3] (vI n3 :: vI n2 :: vI n1 :: vR r0 :: vR r :: []) mem = evc X (gR mem r 3 (ev X m_X3_isEnough 0 [vR r, vR r0, vI n1, vI n2, vI n3, vS, vS] [] mem)) m_X4_cost 81 [a0, a1, a2, a3] [] := ke_callV (m' := m_X3_isEnough) (as := [vR r0, vI n1, vI n2, vI n3]) (n := 4) (rest := []) dX4_cost_78 rfl rfl rfl rfl rfl rfl (Nat.le_of_ble_eq_true rfl) (Nat.le_of_ble_eq_true rfl) (Nat.le_of_ble_eq_true rfl) rfl
theorem eX4_cost_81 : ev X m_X4_cost 81 [a0, a1, a2, a3] (vI x :: st) mem = if x = 0 then ev X m_X4_cost 86 [a0, a1, a2, a3] st mem else ev X m_X4_cost 84 [a0, a1, a2, a3] st mem := ke_if_eq dX4_cost_81 rfl
theorem eX4_cost_84 : ev X m_X4_cost 84 [a0, a1, a2, vI x] st mem = ev X m_X4_cost 85 [a0, a1, a2, vI x] (vI x :: st) mem := ke_iload_n rfl dX4_cost_84
theorem eX4_cost_85 : ev X m_X4_cost 85 [a0, a1, a2, a3] [vI x] mem = some (some (vI x), mem) := ke_ireturn dX4_cost_85 rfl
theorem eX4_cost_86 : ev X m_X4_cost 86 [a0, a1, a2, vI x] st mem = ev X m_X4_cost 89 [a0, a1, a2, vI (w32 (x + 1))] st mem := ke_iinc rfl (Nat.le_of_ble_eq_true rfl) rfl dX4_cost_86
theorem eX4_cost_89 : ev X m_X4_cost 89 [a0, a1, a2, a3] st mem = ev X m_X4_cost 62 [a0, a1, a2, a3] st mem := ke_goto dX4_cost_89 rfl
theorem eX4_cost_92 : ev X m_X4_cost 92 [a0, a1, a2, a3] st mem = ev X m_X4_cost 94 [a0, a1, a2, a3] (vI (-9) :: st) mem := ke_bipush (by decide) dX4_cost_92
theorem eX4_cost_94 : ev X m_X4_cost 94 [a0, a1, a2, a3] [vI x] mem = some (some (vI x), mem) := ke_ireturn dX4_cost_94 rfl
theorem eX3_isEnough_0 : ev X m_X3_isEnough 0 [a0, a1, a2, a3, a4, a5, a6] st mem = ev X m_X3_isEnough 1 [a0, a1, a2, a3, a4, a5, a6] (vI 1 :: st) mem := ke_iconst (by decide) dX3_isEnough_0
theorem eX3_isEnough_1 : ev X m_X3_isEnough 1 [a0, a1, a2, a3, a4, a5, a6] (vI x :: st) mem = ev X m_X3_isEnough 3 [a0, a1, a2, a3, a4, vI x, a6] st mem := ke_istore (Nat.le_of_ble_eq_true rfl) rfl dX3_isEnough_1
theorem eX3_isEnough_3 : ev X m_X3_isEnough 3 [a0, a1, a2, a3, a4, a5, a6] st mem = ev X m_X3_isEnough 4 [a0, a1, a2, a3, a4, a5, a6] (vI 0 :: st) mem := ke_iconst (by decide) dX3_isEnough_3
theorem eX3_isEnough_4 : ev X m_X3_isEnough 4 [a0, a1, a2, a3, a4, a5, a6] (vI x :: st) mem = ev X m_X3_isEnough 6 [a0, a1, a2, a3, a4, a5, vI x] st mem := ke_istore (Nat.le_of_ble_eq_true rfl) rfl dX3_isEnough_4
theorem eX3_isEnough_6 : ev X m_X3_isEnough 6 [a0, a1, a2, a3, a4, a5, vI x] st mem = ev X m_X3_isEnough 8 [a0, a1, a2, a3, a4, a5, vI x] (vI x :: st) mem := ke_iload rfl dX3_isEnough_6
theorem eX3_isEnough_8 : ev X m_X3_isEnough 8 [a0, a1, a2, a3, vI x, a5, a6] st mem = ev X m_X3_isEnough 10 [a0, a1, a2, a3, vI x, a5, a6] (vI x :: st) mem := ke_iload rfl dX3_isEnough_8
theorem eX3_isEnough_10 : ev X m_X3_isEnough 10 [a0, a1, a2, a3, a4, a5, a6] (vI y :: vI x :: st) mem = if x < y then ev X m_X3_isEnough 13 [a0, a1, a2, a3, a4, a5, a6] st mem else ev X m_X3_isEnough 28 [a0, a1, a2, a3, a4, a5, a6] st mem := ke_icmp_ge dX3_isEnough_10 rfl
theorem eX3_isEnough_13 : ev X m_X3_isEnough 13 [a0, a1, a2, a3, a4, vI x, a6] st mem = ev X m_X3_isEnough 15 [a0, a1, a2, a3, a4, vI x, a6] (vI x :: st) mem := ke_iload rfl dX3_isEnough_13
theorem eX3_isEnough_15 : ev X m_X3_isEnough 15 [a0, vR r, a2, a3, a4, a5, a6] st mem = ev X m_X3_isEnough 16 [a0, vR r, a2, a3, a4, a5, a6] (vR r :: st) mem := ke_aload_n rfl dX3_isEnough_15
theorem eX3_isEnough_16 : ev X m_X3_isEnough 16 [a0, a1, a2, a3, a4, a5, a6] (vR r :: st) mem = evb X (fget mem r 0 0) m_X3_isEnough 19 [a0, a1, a2, a3, a4, a5, a6] st mem := ke_getf rfl dX3_isEnough_16
theorem eX3_isEnough_19 : ev X m_X3_isEnough 19 [a0, a1, a2, a3, a4, a5, a6] (vI y :: vI x :: st) mem = ev X m_X3_isEnough 20 [a0, a1, a2, a3, a4, a5, a6] (vI (w32 (x * y)) :: st) mem := ke_imul dX3_isEnough_19
theorem eX3_isEnough_20 : ev X m_X3_isEnough 20 [a0, a1, a2, a3, a4, a5, a6] (vI x :: st) mem = ev X m_X3_isEnough 22 [a0, a1, a2, a3, a4, vI x, a6] st mem := ke_istore (Nat.le_of_ble_eq_true rfl) rfl dX3_isEnough_20
theorem eX3_isEnough_22 : ev X m_X3_isEnough 22 [a0, a1, a2, a3, a4, a5, vI x] st mem = ev X m_X3_isEnough 25 [a0, a1, a2, a3, a4, a5, vI (w32 (x + 1))] st mem := ke_iinc rfl (Nat.le_of_ble_eq_true rfl) rfl dX3_isEnough_22
theorem eX3_isEnough_25 : ev X m_X3_isEnough 25 [a0, a1, a2, a3, a4, a5, a6] st mem = ev X m_X3_isEnough 6 [a0, a1, a2, a3, a4, a5, a6] st mem := ke_goto dX3_isEnough_25 rfl
theorem eX3_isEnough_28 : ev X m_X3_isEnough 28 [a0, a1, a2, a3, a4, a5, a6] st mem = ev X m_X3_isEnough 29 [a0, a1, a2, a3, a4, a5, a6] (vI 0 :: st) mem := ke_iconst (by decide) dX3_isEnough_28
theorem eX3_isEnough_29 : ev X m_X3_isEnough 29 [a0, a1, a2, a3, a4, a5, a6] (vI x :: st) mem = ev X m_X3_isEnough 31 [a0, a1, a2, a3, a4, a5, vI x] st mem := ke_istore (Nat.le_of_ble_eq_true rfl) rfl dX3_isEnough_29
theorem eX3_isEnough_31 : ev X m_X3_isEnough 31 [a0, a1, a2, a3, a4, a5, vI x] st mem = ev X m_X3_isEnough 33 [a0, a1, a2, a3, a4, a5, vI x] (vI x :: st) mem := ke_iload rfl dX3_isEnough_31
theorem eX3_isEnough_33 : ev X m_X3_isEnough 33 [a0, a1, a2, a3, a4, vI x, a6] st mem = ev X m_X3_isEnough 35 [a0, a1, a2, a3, a4, vI x, a6] (vI x :: st) mem := ke_iload rfl dX3_isEnough_33
theorem eX3_isEnough_35 : ev X m_X3_isEnough 35 [a0, a1, a2, a3, a4, a5, a6] (vI y :: vI x :: st) mem = if x < y then ev X m_X3_isEnough 38 [a0, a1, a2, a3, a4, a5, a6] st mem else ev X m_X3_isEnough 83 [a0, a1, a2, a3, a4, a5, a6] st mem := ke_icmp_ge dX3_isEnough_35 rfl
theorem eX3_isEnough_38 : ev X m_X3_isEnough 38 [vR r, a1, a2, a3, a4, a5, a6] st mem = ev X m_X3_isEnough 39 [vR r, a1, a2, a3, a4, a5, a6] (vR r :: st) mem := ke_aload_n rfl dX3_isEnough_38
theorem eX3_isEnough_39 : ev X m_X3_isEnough 39 [a0, a1, a2, a3, a4, a5, a6] (vR r :: st) mem = evb X (fget mem r 3 0) m_X3_isEnough 42 [a0, a1, a2, a3, a4, a5, a6] st mem := ke_getf rfl dX3_isEnough_39
theorem eX3_isEnough_42 : ev X m_X3_isEnough 42 [a0, vR r, a2, a3, a4, a5, a6] st mem = ev X m_X3_isEnough 43 [a0, vR r, a2, a3, a4, a5, a6] (vR r :: st) mem := ke_aload_n rfl dX3_isEnough_42
theorem eX3_isEnough_43 : ev X m_X3_isEnough 43 [a0, a1, a2, a3, a4, a5, a6] (vR r0 :: vR r :: []) mem = evc X (gR mem r 0 (ev X m_X0_become 0 [vR r, vR r0] [] mem)) m_X3_isEnough 46 [a0, a1, a2, a3, a4, a5, a6] [] := ke_callV (m' := m_X0_become) (as := [vR r0]) (n := 1) (rest := []) dX3_isEnough_43 rfl rfl rfl rfl rfl rfl (Nat.le_of_ble_eq_true rfl) (Nat.le_of_ble_eq_true rfl) (Nat.le_of_ble_eq_true rfl) rfl
theorem eX3_isEnough_46 : ev X m_X3_isEnough 46 [vR r, a1, a2, a3, a4, a5, a6] st mem = ev X m_X3_isEnough 47 [vR r, a1, a2, a3, a4, a5, a6] (vR r :: st) mem := ke_aload_n rfl dX3_isEnough_46
theorem eX3_isEnough_47 : ev X m_X3_isEnough 47 [a0, a1, a2, a3, a4, a5, vI x] st mem = ev X m_X3_isEnough 49 [a0, a1, a2, a3, a4, a5, vI x] (vI x :: st) mem := ke_iload rfl dX3_isEnough_47
theorem eX3_isEnough_49 : ev X m_X3_isEnough 49 [a0, a1, a2, a3, vI x, a5, a6] st mem = ev X m_X3_isEnough 51 [a0, a1, a2, a3, vI x, a5, a6] (vI x :: st) mem := ke_iload rfl dX3_isEnough_49
theorem eX3_isEnough_51 : ev X m_X3_isEnough 51 [a0, vR r, a2, a3, a4, a5, a6] st mem = ev X m_X3_isEnough 52 [a0, vR r, a2, a3, a4, a5, a6] (vR r :: st) mem := ke_aload_n rfl dX3_isEnough_51
theorem eX3_isEnough_52 : ev X m_X3_isEnough 52 [a0, a1, vI x, a3, a4, a5, a6] st mem = ev X m_X3_isEnough 53 [a0, a1, vI x, a3, a4, a5, a6] (vI x :: st) mem := ke_iload_n rfl dX3_isEnough_52
theorem eX3_isEnough_53 : ev X m_X3_isEnough 53 [a0, a1, a2, a3, a4, a5, a6] (vI n0 :: vR r :: [s0, s1, s2]) mem = evc X (gR mem r 0 (ev X m_X0_receiverOf 0 [vR r, vI n0] [] mem)) m_X3_isEnough 56 [a0, a1, a2, a3, a4, a5, a6] [s0, s1, s2] := ke_callV (m' := m_X0_receiverOf) (as := [vI n0]) (n := 1) (rest := [s0, s1, s2]) dX3_isEnough_53 rfl rfl rfl rfl rfl rfl (Nat.le_of_ble_eq_true rfl) (Nat.le_of_ble_eq_true rfl) (Nat.le_of_ble_eq_true rfl) rfl
theorem eX3_isEnough_56 : ev X m_X3_isEnough 56 [a0, a1, a2, a3, a4, a5, a6] (vI n2 :: vI n1 :: vI n0 :: vR r :: []) mem = evc X (gR mem r 3 (ev X m_X3_slightAll 0 [vR r, vI n0, vI n1, vI n2, vS, vS, vS, vS, vS] [] mem)) m_X3_isEnough 59 [a0, a1, a2, a3, a4, a5, a6] [] := ke_callV (m' := m_X3_slightAll) (as := [vI n0, vI n1, vI n2]) (n := 3) (rest := []) dX3_isEnough_56 rfl rfl rfl rfl rfl rfl (Nat.le_of_ble_eq_true rfl) (Nat.le_of_ble_eq_true rfl) (Nat.le_of_ble_eq_true rfl) rfl
theorem eX3_isEnough_59 : ev X m_X3_isEnough 59 [a0, a1, a2, a3, a4, a5, a6] (vI x :: st) mem = if x = 0 then ev X m_X3_isEnough 77 [a0, a1, a2, a3, a4, a5, a6] st mem else ev X m_X3_isEnough 62 [a0, a1, a2, a3, a4, a5, a6] st mem := ke_if_eq dX3_isEnough_59 rfl
theorem eX3_isEnough_62 : ev X m_X3_isEnough 62 [vR r, a1, a2, a3, a4, a5, a6] st mem = ev X m_X3_isEnough 63 [vR r, a1, a2, a3, a4, a5, a6] (vR r :: st) mem := ke_aload_n rfl dX3_isEnough_62
theorem eX3_isEnough_63 : ev X m_X3_isEnough 63 [a0, a1, a2, a3, a4, a5, a6] (vR r :: st) mem = evb X (fget mem r 3 0) m_X3_isEnough 66 [a0, a1, a2, a3, a4, a5, a6] st mem := ke_getf rfl dX3_isEnough_63
theorem eX3_isEnough_66 : ev X m_X3_isEnough 66 [a0, a1, vI x, a3, a4, a5, a6] st mem = ev X m_X3_isEnough 67 [a0, a1, vI x, a3, a4, a5, a6] (vI x :: st) mem := ke_iload_n rfl dX3_isEnough_66
theorem eX3_isEnough_67 : ev X m_X3_isEnough 67 [a0, a1, a2, vI x, a4, a5, a6] st mem = ev X m_X3_isEnough 68 [a0, a1, a2, vI x, a4, a5, a6] (vI x :: st) mem := ke_iload_n rfl dX3_isEnough_67
theorem eX3_isEnough_68 : ev X m_X3_isEnough 68 [a0, a1, a2, a3, a4, a5, a6] (vI n2 :: vI n1 :: vR r0 :: []) mem = evc X (ev X m_X4_daysTillBrought 0 [vR r0, vI n1, vI n2, vS] [] mem) m_X3_isEnough 71 [a0, a1, a2, a3, a4, a5, a6] [] := ke_callS (m' := m_X4_daysTillBrought) (as := [vR r0, vI n1, vI n2]) (n := 3) (rest := []) dX3_isEnough_68 rfl (by decide) rfl rfl rfl rfl rfl (Nat.le_of_ble_eq_true rfl) (Nat.le_of_ble_eq_true rfl) rfl
theorem eX3_isEnough_71 : ev X m_X3_isEnough 71 [a0, a1, a2, vI x, a4, a5, a6] st mem = ev X m_X3_isEnough 72 [a0, a1, a2, vI x, a4, a5, a6] (vI x :: st) mem := ke_iload_n rfl dX3_isEnough_71
theorem eX3_isEnough_72 : ev X m_X3_isEnough 72 [a0, a1, a2, a3, a4, a5, a6] (vI y :: vI x :: st) mem = if y < x then ev X m_X3_isEnough 77 [a0, a1, a2, a3, a4, a5, a6] st mem else ev X m_X3_isEnough 75 [a0, a1, a2, a3, a4, a5, a6] st mem := ke_icmp_gt dX3_isEnough_72 rfl
theorem eX3_isEnough_75 : ev X m_X3_isEnough 75 [a0, a1, a2, a3, a4, a5, a6] st mem = ev X m_X3_isEnough 76 [a0, a1, a2, a3, a4, a5, a6] (vI 1 :: st) mem := ke_iconst (by decide) dX3_isEnough_75
theorem eX3_isEnough_76a : ev X m_X3_isEnough 76 [a0, a1, a2, a3, a4, a5, a6] [vI 1] mem = some (some (vI 1), mem) := ke_zreturn dX3_isEnough_76 rfl rfl
theorem eX3_isEnough_76b : ev X m_X3_isEnough 76 [a0, a1, a2, a3, a4, a5, a6] [vI 0] mem = some (some (vI 0), mem) := ke_zreturn dX3_isEnough_76 rfl rfl
theorem eX3_isEnough_76c {c : Prop} [Decidable c] : ev X m_X3_isEnough 76 [a0, a1, a2, a3, a4, a5, a6] [vI (if c then 1 else 0)] mem = some (some (vI (if c then 1 else 0)), mem) := ke_zreturn dX3_isEnough_76 rfl (by split <;> rfl)
theorem eX3_isEnough_77 : ev X m_X3_isEnough 77 [a0, a1, a2, a3, a4, a5, vI x] st mem = ev X m_X3_isEnough 80 [a0, a1, a2, a3, a4, a5, vI (w32 (x + 1))] st mem := ke_iinc rfl (Nat.le_of_ble_eq_true rfl) rfl dX3_isEnough_77
theorem eX3_isEnough_80 : ev X m_X3_isEnough 80 [a0, a1, a2, a3, a4, a5, a6] st mem = ev X m_X3_isEnough 31 [a0, a1, a2, a3, a4, a5, a6] st mem := ke_goto dX3_isEnough_80 rfl
theorem eX3_isEnough_83 : ev X m_X3_isEnough 83 [a0, a1, a2, a3, a4, a5, a6] st mem = ev X m_X3_isEnough 84 [a0, a1, a2, a3, a4, a5, a6] (vI 0 :: st) mem := ke_iconst (by decide) dX3_isEnough_83
theorem eX3_isEnough_84a : ev X m_X3_isEnough 84 [a0, a1, a2, a3, a4, a5, a6] [vI 1] mem = some (some (vI 1), mem) := ke_zreturn dX3_isEnough_84 rfl rfl
theorem eX3_isEnough_84b : ev X m_X3_isEnough 84 [a0, a1, a2, a3, a4, a5, a6] [vI 0] mem = some (some (vI 0), mem) := ke_zreturn dX3_isEnough_84 rfl rfl
theorem eX3_isEnough_84c {c : Prop} [Decidable c] : ev X m_X3_isEnough 84 [a0, a1, a2, a3, a4, a5, a6] [vI (if c then 1 else 0)] mem = some (some (vI (if c then 1 else 0)), mem) := ke_zreturn dX3_isEnough_84 rfl (by split <;> rfl)
theorem eX3_slightAll_0 : ev X m_X3_slightAll 0 [a0, a1, a2, a3, a4, a5, a6, a7, a8] st mem = ev X m_X3_slightAll 1 [a0, a1, a2, a3, a4, a5, a6, a7, a8] (vI 1 :: st) mem := ke_iconst (by decide) dX3_slightAll_0
theorem eX3_slightAll_1 : ev X m_X3_slightAll 1 [vR r, a1, a2, a3, a4, a5, a6, a7, a8] st mem = ev X m_X3_slightAll 2 [vR r, a1, a2, a3, a4, a5, a6, a7, a8] (vR r :: st) mem := ke_aload_n rfl dX3_slightAll_1
theorem eX3_slightAll_2 : ev X m_X3_slightAll 2 [a0, a1, a2, a3, a4, a5, a6, a7, a8] (vR r :: st) mem = evb X (fget mem r 3 0) m_X3_slightAll 5 [a0, a1, a2, a3, a4, a5, a6, a7, a8] st mem := ke_getf rfl dX3_slightAll_2
theorem eX3_slightAll_5 : ev X m_X3_slightAll 5 [a0, a1, a2, a3, a4, a5, a6, a7, a8] (vR r :: st) mem = evb X (fget mem r 0 0) m_X3_slightAll 8 [a0, a1, a2, a3, a4, a5, a6, a7, a8] st mem := ke_getf rfl dX3_slightAll_5
theorem eX3_slightAll_8 : ev X m_X3_slightAll 8 [a0, a1, a2, a3, a4, a5, a6, a7, a8] (vI y :: vI x :: []) mem = ev X m_X3_slightAll 11 [a0, a1, a2, a3, a4, a5, a6, a7, a8] (vI (if x < y then y else x) :: []) mem := ke_mmax rfl rfl rfl (Nat.le_of_ble_eq_true rfl) (Nat.le_of_ble_eq_true rfl) (Nat.le_of_ble_eq_true rfl) dX3_slightAll_8
theorem eX3_slightAll_11 : ev X m_X3_slightAll 11 [a0, a1, a2, a3, a4, a5, a6, a7, a8] (vI x :: st) mem = ev X m_X3_slightAll 13 [a0, a1, a2, a3, vI x, a5, a6, a7, a8] st mem := ke_istore (Nat.le_of_ble_eq_true rfl) rfl dX3_slightAll_11
theorem eX3_slightAll_13 : ev X m_X3_slightAll 13 [a0, vI x, a2, a3, a4, a5, a6, a7, a8] st mem = ev X m_X3_slightAll 14 [a0, vI x, a2, a3, a4, a5, a6, a7, a8] (vI x :: st) mem := ke_iload_n rfl dX3_slightAll_13
theorem eX3_slightAll_14 : ev X m_X3_slightAll 14 [a0, a1, a2, a3, a4, a5, a6, a7, a8] (vI x :: st) mem = ev X m_X3_slightAll 16 [a0, a1, a2, a3, a4, vI x, a6, a7, a8] st mem := ke_istore (Nat.le_of_ble_eq_true rfl) rfl dX3_slightAll_14
theorem eX3_slightAll_16 : ev X m_X3_slightAll 16 [a0, a1, a2, a3, a4, a5, a6, a7, a8] st mem = ev X m_X3_slightAll 17 [a0, a1, a2, a3, a4, a5, a6, a7, a8] (vI 0 :: st) mem := ke_iconst (by decide) dX3_slightAll_16
theorem eX3_slightAll_17 : ev X m_X3_slightAll 17 [a0, a1, a2, a3, a4, a5, a6, a7, a8] (vI x :: st) mem = ev X m_X3_slightAll 19 [a0, a1, a2, a3, a4, a5, vI x, a7, a8] st mem := ke_istore (Nat.le_of_ble_eq_true rfl) rfl dX3_slightAll_17
theorem eX3_slightAll_19 : ev X m_X3_slightAll 19 [a0, a1, a2, a3, a4, a5, a6, a7, a8] st mem = ev X m_X3_slightAll 20 [a0, a1, a2, a3, a4, a5, a6, a7, a8] (vI 0 :: st) mem := ke_iconst (by decide) dX3_slightAll_19
theorem eX3_slightAll_20 : ev X m_X3_slightAll 20 [a0, a1, a2, a3, a4, a5, a6, a7, a8] (vI x :: st) mem = ev X m_X3_slightAll 22 [a0, a1, a2, a3, a4, a5, a6, vI x, a8] st mem := ke_istore (Nat.le_of_ble_eq_true rfl) rfl dX3_slightAll_20
theorem eX3_slightAll_22 : ev X m_X3_slightAll 22 [a0, a1, a2, a3, a4, a5, a6, vI x, a8] st mem = ev X m_X3_slightAll 24 [a0, a1, a2, a3, a4, a5, a6, vI x, a8] (vI x :: st) mem := ke_iload rfl dX3_slightAll_22
theorem eX3_slightAll_24 : ev X m_X3_slightAll 24 [a0, a1, vI x, a3, a4, a5, a6, a7, a8] st mem = ev X m_X3_slightAll 25 [a0, a1, vI x, a3, a4, a5, a6, a7, a8] (vI x :: st) mem := ke_iload_n rfl dX3_slightAll_24
theorem eX3_slightAll_25 : ev X m_X3_slightAll 25 [a0, a1, a2, a3, a4, a5, a6, a7, a8] (vI y :: vI x :: st) mem = if x < y then ev X m_X3_slightAll 28 [a0, a1, a2, a3, a4, a5, a6, a7, a8] st mem else ev X m_X3_slightAll 80 [a0, a1, a2, a3, a4, a5, a6, a7, a8] st mem := ke_icmp_ge dX3_slightAll_25 rfl
theorem eX3_slightAll_28 : ev X m_X3_slightAll 28 [a0, a1, a2, a3, a4, vI x, a6, a7, a8] st mem = ev X m_X3_slightAll 30 [a0, a1, a2, a3, a4, vI x, a6, a7, a8] (vI x :: st) mem := ke_iload rfl dX3_slightAll_28
theorem eX3_slightAll_30 : ev X m_X3_slightAll 30 [a0, a1, a2, a3, vI x, a5, a6, a7, a8] st mem = ev X m_X3_slightAll 32 [a0, a1, a2, a3, vI x, a5, a6, a7, a8] (vI x :: st) mem := ke_iload rfl dX3_slightAll_30
theorem eX3_slightAll_32 : ev X m_X3_slightAll 32 [a0, a1, a2, a3, a4, a5, a6, a7, a8] (vI y :: vI x :: st) mem = if y = 0 then none else ev X m_X3_slightAll 33 [a0, a1, a2, a3, a4, a5, a6, a7, a8] (vI (w32 (x.tmod y)) :: st) mem := ke_irem dX3_slightAll_32
theorem eX3_slightAll_33 : ev X m_X3_slightAll 33 [a0, a1, a2, a3, a4, a5, a6, a7, a8] (vI x :: st) mem = ev X m_X3_slightAll 35 [a0, a1, a2, a3, a4, a5, a6, a7, vI x] st mem := ke_istore (Nat.le_of_ble_eq_true rfl) rfl dX3_slightAll_33
theorem eX3_slightAll_35 : ev X m_X3_slightAll 35 [a0, a1, a2, a3, a4, vI x, a6, a7, a8] st mem = ev X m_X3_slightAll 37 [a0, a1, a2, a3, a4, vI x, a6, a7, a8] (vI x :: st) mem := ke_iload rfl dX3_slightAll_35
theorem eX3_slightAll_37 : ev X m_X3_slightAll 37 [a0, a1, a2, a3, vI x, a5, a6, a7, a8] st mem = ev X m_X3_slightAll 39 [a0, a1, a2, a3, vI x, a5, a6, a7, a8] (vI x :: st) mem := ke_iload rfl dX3_slightAll_37
theorem eX3_slightAll_39 : ev X m_X3_slightAll 39 [a0, a1, a2, a3, a4, a5, a6, a7, a8] (vI y :: vI x :: st) mem = if y = 0 then none else ev X m_X3_slightAll 40 [a0, a1, a2, a3, a4, a5, a6, a7, a8] (vI (w32 (x.tdiv y)) :: st) mem := ke_idiv dX3_slightAll_39
theorem eX3_slightAll_40 : ev X m_X3_slightAll 40 [a0, a1, a2, a3, a4, a5, a6, a7, a8] (vI x :: st) mem = ev X m_X3_slightAll 42 [a0, a1, a2, a3, a4, vI x, a6, a7, a8] st mem := ke_istore (Nat.le_of_ble_eq_true rfl) rfl dX3_slightAll_40
theorem eX3_slightAll_42 : ev X m_X3_slightAll 42 [a0, a1, a2, a3, a4, a5, a6, a7, vI x] st mem = ev X m_X3_slightAll 44 [a0, a1, a2, a3, a4, a5, a6, a7, vI x] (vI x :: st) mem := ke_iload rfl dX3_slightAll_42
theorem eX3_slightAll_44 : ev X m_X3_slightAll 44 [a0, a1, a2, vI x, a4, a5, a6, a7, a8] st mem = ev X m_X3_slightAll 45 [a0, a1, a2, vI x, a4, a5, a6, a7, a8] (vI x :: st) mem := ke_iload_n rfl dX3_slightAll_44
theorem eX3_slightAll_45 : ev X m_X3_slightAll 45 [a0, a1, a2, a3, a4, a5, a6, a7, a8] (vI y :: vI x :: st) mem = if x = y then ev X m_X3_slightAll 55 [a0, a1, a2, a3, a4, a5, a6, a7, a8] st mem else ev X m_X3_slightAll 48 [a0, a1, a2, a3, a4, a5, a6, a7, a8] st mem := ke_icmp_eq dX3_slightAll_45 rfl
theorem eX3_slightAll_48 : ev X m_X3_slightAll 48 [a0, a1, a2, a3, a4, a5, a6, a7, vI x] st mem = ev X m_X3_slightAll 50 [a0, a1, a2, a3, a4, a5, a6, a7, vI x] (vI x :: st) mem := ke_iload rfl dX3_slightAll_48
theorem eX3_slightAll_50 : ev X m_X3_slightAll 50 [a0, a1, a2, a3, a4, a5, vI x, a7, a8] st mem = ev X m_X3_slightAll 52 [a0, a1, a2, a3, a4, a5, vI x, a7, a8] (vI x :: st) mem := ke_iload rfl dX3_slightAll_50
theorem eX3_slightAll_52 : ev X m_X3_slightAll 52 [a0, a1, a2, a3, a4, a5, a6, a7, a8] (vI y :: vI x :: st) mem = if x < y then ev X m_X3_slightAll 55 [a0, a1, a2, a3, a4, a5, a6, a7, a8] st mem else ev X m_X3_slightAll 57 [a0, a1, a2, a3, a4, a5, a6, a7, a8] st mem := ke_icmp_ge dX3_slightAll_52 rfl
theorem eX3_slightAll_55 : ev X m_X3_slightAll 55 [a0, a1, a2, a3, a4, a5, a6, a7, a8] st mem = ev X m_X3_slightAll 56 [a0, a1, a2, a3, a4, a5, a6, a7, a8] (vI 0 :: st) mem := ke_iconst (by decide) dX3_slightAll_55
theorem eX3_slightAll_56a : ev X m_X3_slightAll 56 [a0, a1, a2, a3, a4, a5, a6, a7, a8] [vI 1] mem = some (some (vI 1), mem) := ke_zreturn dX3_slightAll_56 rfl rfl
theorem eX3_slightAll_56b : ev X m_X3_slightAll 56 [a0, a1, a2, a3, a4, a5, a6, a7, a8] [vI 0] mem = some (some (vI 0), mem) := ke_zreturn dX3_slightAll_56 rfl rfl
theorem eX3_slightAll_56c {c : Prop} [Decidable c] : ev X m_X3_slightAll 56 [a0, a1, a2, a3, a4, a5, a6, a7, a8] [vI (if c then 1 else 0)] mem = some (some (vI (if c then 1 else 0)), mem) := ke_zreturn dX3_slightAll_56 rfl (by split <;> rfl)
theorem eX3_slightAll_57 : ev X m_X3_slightAll 57 [vR r, a1, a2, a3, a4, a5, a6, a7, a8] st mem = ev X m_X3_slightAll 58 [vR r, a1, a2, a3, a4, a5, a6, a7, a8] (vR r :: st) mem := ke_aload_n rfl dX3_slightAll_57
theorem eX3_slightAll_58 : ev X m_X3_slightAll 58 [a0, a1, a2, a3, a4, a5, a6, a7, a8] (vR r :: st) mem = evb X (fget mem r 3 0) m_X3_slightAll 61 [a0, a1, a2, a3, a4, a5, a6, a7, a8] st mem := ke_getf rfl dX3_slightAll_58
theorem eX3_slightAll_61 : ev X m_X3_slightAll 61 [a0, a1, a2, a3, a4, a5, a6, a7, vI x] st mem = ev X m_X3_slightAll 63 [a0, a1, a2, a3, a4, a5, a6, a7, vI x] (vI x :: st) mem := ke_iload rfl dX3_slightAll_61
theorem eX3_slightAll_63 : ev X m_X3_slightAll 63 [a0, a1, a2, vI x, a4, a5, a6, a7, a8] st mem = ev X m_X3_slightAll 64 [a0, a1, a2, vI x, a4, a5, a6, a7, a8] (vI x :: st) mem := ke_iload_n rfl dX3_slightAll_63
theorem eX3_slightAll_64 : ev X m_X3_slightAll 64 [a0, a1, a2, a3, a4, a5, a6, a7, a8] st mem = ev X m_X3_slightAll 66 [a0, a1, a2, a3, a4, a5, a6, a7, a8] (vI 10 :: st) mem := ke_bipush (by decide) dX3_slightAll_64
theorem eX3_slightAll_66 : ev X m_X3_slightAll 66 [a0, a1, a2, a3, a4, a5, a6, a7, a8] (vI n2 :: vI n1 :: vI n0 :: vR r :: []) mem = evc X (gR mem r 0 (ev X m_X0_addHate 0 [vR r, vI n0, vI n1, vI n2, vS] [] mem)) m_X3_slightAll 69 [a0, a1, a2, a3, a4, a5, a6, a7, a8] [] := ke_callV (m' := m_X0_addHate) (as := [vI n0, vI n1, vI n2]) (n := 3) (rest := []) dX3_slightAll_66 rfl rfl rfl rfl rfl rfl (Nat.le_of_ble_eq_true rfl) (Nat.le_of_ble_eq_true rfl) (Nat.le_of_ble_eq_true rfl) rfl
theorem eX3_slightAll_69 : ev X m_X3_slightAll 69 [a0, a1, a2, a3, a4, a5, a6, a7, a8] (vI x :: st) mem = ev X m_X3_slightAll 70 [a0, a1, a2, a3, a4, a5, a6, a7, a8] st mem := ke_popI dX3_slightAll_69
theorem eX3_slightAll_69r : ev X m_X3_slightAll 69 [a0, a1, a2, a3, a4, a5, a6, a7, a8] (vR r :: st) mem = ev X m_X3_slightAll 70 [a0, a1, a2, a3, a4, a5, a6, a7, a8] st mem := ke_popR dX3_slightAll_69
theorem eX3_slightAll_70 : ev X m_X3_slightAll 70 [a0, a1, a2, a3, a4, a5, a6, a7, vI x] st mem = ev X m_X3_slightAll 72 [a0, a1, a2, a3, a4, a5, a6, a7, vI x] (vI x :: st) mem := ke_iload rfl dX3_slightAll_70
theorem eX3_slightAll_72 : ev X m_X3_slightAll 72 [a0, a1, a2, a3, a4, a5, a6, a7, a8] (vI x :: st) mem = ev X m_X3_slightAll 74 [a0, a1, a2, a3, a4, a5, vI x, a7, a8] st mem := ke_istore (Nat.le_of_ble_eq_true rfl) rfl dX3_slightAll_72
theorem eX3_slightAll_74 : ev X m_X3_slightAll 74 [a0, a1, a2, a3, a4, a5, a6, vI x, a8] st mem = ev X m_X3_slightAll 77 [a0, a1, a2, a3, a4, a5, a6, vI (w32 (x + 1)), a8] st mem := ke_iinc rfl (Nat.le_of_ble_eq_true rfl) rfl dX3_slightAll_74
theorem eX3_slightAll_77 : ev X m_X3_slightAll 77 [a0, a1, a2, a3, a4, a5, a6, a7, a8] st mem = ev X m_X3_slightAll 22 [a0, a1, a2, a3, a4, a5, a6, a7, a8] st mem := ke_goto dX3_slightAll_77 rfl
theorem eX3_slightAll_80 : ev X m_X3_slightAll 80 [a0, a1, a2, a3, a4, a5, a6, a7, a8] st mem = ev X m_X3_slightAll 81 [a0, a1, a2, a3, a4, a5, a6, a7, a8] (vI 1 :: st) mem := ke_iconst (by decide) dX3_slightAll_80
theorem eX3_slightAll_81a : ev X m_X3_slightAll 81 [a0, a1, a2, a3, a4, a5, a6, a7, a8] [vI 1] mem = some (some (vI 1), mem) := ke_zreturn dX3_slightAll_81 rfl rfl
theorem eX3_slightAll_81b : ev X m_X3_slightAll 81 [a0, a1, a2, a3, a4, a5, a6, a7, a8] [vI 0] mem = some (some (vI 0), mem) := ke_zreturn dX3_slightAll_81 rfl rfl
theorem eX3_slightAll_81c {c : Prop} [Decidable c] : ev X m_X3_slightAll 81 [a0, a1, a2, a3, a4, a5, a6, a7, a8] [vI (if c then 1 else 0)] mem = some (some (vI (if c then 1 else 0)), mem) := ke_zreturn dX3_slightAll_81 rfl (by split <;> rfl)
theorem eX4_makeUp_0 : ev X m_X4_makeUp 0 [vR r, a1, a2] st mem = ev X m_X4_makeUp 1 [vR r, a1, a2] (vR r :: st) mem := ke_aload_n rfl dX4_makeUp_0
theorem eX4_makeUp_1 : ev X m_X4_makeUp 1 [a0, vI x, a2] st mem = ev X m_X4_makeUp 2 [a0, vI x, a2] (vI x :: st) mem := ke_iload_n rfl dX4_makeUp_1
theorem eX4_makeUp_2 : ev X m_X4_makeUp 2 [a0, a1, a2] (vI n0 :: vR r :: []) mem = evc X (gR mem r 4 (ev X m_X4_notWaiting 0 [vR r, vI n0] [] mem)) m_X4_makeUp 5 [a0, a1, a2] [] := ke_callV (m' := m_X4_notWaiting) (as := [vI n0]) (n := 1) (rest := []) dX4_makeUp_2 rfl rfl rfl rfl rfl rfl (Nat.le_of_ble_eq_true rfl) (Nat.le_of_ble_eq_true rfl) (Nat.le_of_ble_eq_true rfl) rfl
theorem eX4_makeUp_5 : ev X m_X4_makeUp 5 [a0, a1, a2] (vI x :: st) mem = ev X m_X4_makeUp 6 [a0, a1, vI x] st mem := ke_istore_n (Nat.le_of_ble_eq_true rfl) rfl dX4_makeUp_5
theorem eX4_makeUp_6 : ev X m_X4_makeUp 6 [a0, a1, vI x] st mem = ev X m_X4_makeUp 7 [a0, a1, vI x] (vI x :: st) mem := ke_iload_n rfl dX4_makeUp_6
theorem eX4_makeUp_7 : ev X m_X4_makeUp 7 [a0, a1, a2] (vI x :: st) mem = if x = 0 then ev X m_X4_makeUp 18 [a0, a1, a2] st mem else ev X m_X4_makeUp 10 [a0, a1, a2] st mem := ke_if_eq dX4_makeUp_7 rfl
theorem eX4_makeUp_10 : ev X m_X4_makeUp 10 [vR r, a1, a2] st mem = ev X m_X4_makeUp 11 [vR r, a1, a2] (vR r :: st) mem := ke_aload_n rfl dX4_makeUp_10
theorem eX4_makeUp_11 : ev X m_X4_makeUp 11 [a0, a1, vI x] st mem = ev X m_X4_makeUp 12 [a0, a1, vI x] (vI x :: st) mem := ke_iload_n rfl dX4_makeUp_11
theorem eX4_makeUp_12 : ev X m_X4_makeUp 12 [a0, a1, a2] (vI n0 :: vR r :: []) mem = evc X (gR mem r 4 (ev X m_X4_refuse 0 [vR r, vI n0] [] mem)) m_X4_makeUp 15 [a0, a1, a2] [] := ke_callV (m' := m_X4_refuse) (as := [vI n0]) (n := 1) (rest := []) dX4_makeUp_12 rfl rfl rfl rfl rfl rfl (Nat.le_of_ble_eq_true rfl) (Nat.le_of_ble_eq_true rfl) (Nat.le_of_ble_eq_true rfl) rfl
theorem eX4_makeUp_15 : ev X m_X4_makeUp 15 [a0, a1, a2] st mem = ev X m_X4_makeUp 30 [a0, a1, a2] st mem := ke_goto dX4_makeUp_15 rfl
theorem eX4_makeUp_18 : ev X m_X4_makeUp 18 [vR r, a1, a2] st mem = ev X m_X4_makeUp 19 [vR r, a1, a2] (vR r :: st) mem := ke_aload_n rfl dX4_makeUp_18
theorem eX4_makeUp_19 : ev X m_X4_makeUp 19 [a0, a1, a2] (vR r :: st) mem = evb X (fget mem r 4 3) m_X4_makeUp 22 [a0, a1, a2] st mem := ke_getf rfl dX4_makeUp_19
theorem eX4_makeUp_22 : ev X m_X4_makeUp 22 [vR r, a1, a2] st mem = ev X m_X4_makeUp 23 [vR r, a1, a2] (vR r :: st) mem := ke_aload_n rfl dX4_makeUp_22
theorem eX4_makeUp_23 : ev X m_X4_makeUp 23 [a0, a1, a2] (vR r :: st) mem = evb X (fget mem r 4 0) m_X4_makeUp 26 [a0, a1, a2] st mem := ke_getf rfl dX4_makeUp_23
theorem eX4_makeUp_26 : ev X m_X4_makeUp 26 [a0, vI x, a2] st mem = ev X m_X4_makeUp 27 [a0, vI x, a2] (vI x :: st) mem := ke_iload_n rfl dX4_makeUp_26
theorem eX4_makeUp_27 : ev X m_X4_makeUp 27 [a0, a1, a2] (vI n1 :: vR r0 :: vR r :: []) mem = evc X (gR mem r 3 (ev X m_X3_worstPeace 0 [vR r, vR r0, vI n1, vS, vS, vS, vS, vS] [] mem)) m_X4_makeUp 30 [a0, a1, a2] [] := ke_callV (m' := m_X3_worstPeace) (as := [vR r0, vI n1]) (n := 2) (rest := []) dX4_makeUp_27 rfl rfl rfl rfl rfl rfl (Nat.le_of_ble_eq_true rfl) (Nat.le_of_ble_eq_true rfl) (Nat.le_of_ble_eq_true rfl) rfl
theorem eX4_makeUp_30 : ev X m_X4_makeUp 30 [a0, a1, a2] [vI x] mem = some (some (vI x), mem) := ke_ireturn dX4_makeUp_30 rfl
theorem eX3_worstPeace_0 : ev X m_X3_worstPeace 0 [a0, vR r, a2, a3, a4, a5, a6, a7] st mem = ev X m_X3_worstPeace 1 [a0, vR r, a2, a3, a4, a5, a6, a7] (vR r :: st) mem := ke_aload_n rfl dX3_worstPeace_0
theorem eX3_worstPeace_1 : ev X m_X3_worstPeace 1 [a0, a1, vI x, a3, a4, a5, a6, a7] st mem = ev X m_X3_worstPeace 2 [a0, a1, vI x, a3, a4, a5, a6, a7] (vI x :: st) mem := ke_iload_n rfl dX3_worstPeace_1
theorem eX3_worstPeace_2 : ev X m_X3_worstPeace 2 [a0, a1, a2, a3, a4, a5, a6, a7] (vI n0 :: vR r :: []) mem = evc X (gR mem r 0 (ev X m_X0_receiverOf 0 [vR r, vI n0] [] mem)) m_X3_worstPeace 5 [a0, a1, a2, a3, a4, a5, a6, a7] [] := ke_callV (m' := m_X0_receiverOf) (as := [vI n0]) (n := 1) (rest := []) dX3_worstPeace_2 rfl rfl rfl rfl rfl rfl (Nat.le_of_ble_eq_true rfl) (Nat.le_of_ble_eq_true rfl) (Nat.le_of_ble_eq_true rfl) rfl
theorem eX3_worstPeace_5 : ev X m_X3_worstPeace 5 [a0, a1, a2, a3, a4, a5, a6, a7] (vI x :: st) mem = ev X m_X3_worstPeace 6 [a0, a1, a2, vI x, a4, a5, a6, a7] st mem := ke_istore_n (Nat.le_of_ble_eq_true rfl) rfl dX3_worstPeace_5
theorem eX3_worstPeace_6 : ev X m_X3_worstPeace 6 [vR r, a1, a2, a3, a4, a5, a6, a7] st mem = ev X m_X3_worstPeace 7 [vR r, a1, a2, a3, a4, a5, a6, a7] (vR r :: st) mem := ke_aload_n rfl dX3_worstPeace_6
theorem eX3_worstPeace_7 : ev X m_X3_worstPeace 7 [a0, a1, a2, a3, a4, a5, a6, a7] (vR r :: st) mem = evb X (fget mem r 3 0) m_X3_worstPeace 10 [a0, a1, a2, a3, a4, a5, a6, a7] st mem := ke_getf rfl dX3_worstPeace_7
theorem eX3_worstPeace_10 : ev X m_X3_worstPeace 10 [a0, vR r, a2, a3, a4, a5, a6, a7] st mem = ev X m_X3_worstPeace 11 [a0, vR r, a2, a3, a4, a5, a6, a7] (vR r :: st) mem := ke_aload_n rfl dX3_worstPeace_10
theorem eX3_worstPeace_11 : ev X m_X3_worstPeace 11 [a0, a1, a2, a3, a4, a5, a6, a7] (vR r0 :: vR r :: []) mem = evc X (gR mem r 0 (ev X m_X0_become 0 [vR r, vR r0] [] mem)) m_X3_worstPeace 14 [a0, a1, a2, a3, a4, a5, a6, a7] [] := ke_callV (m' := m_X0_become) (as := [vR r0]) (n := 1) (rest := []) dX3_worstPeace_11 rfl rfl rfl rfl rfl rfl (Nat.le_of_ble_eq_true rfl) (Nat.le_of_ble_eq_true rfl) (Nat.le_of_ble_eq_true rfl) rfl
theorem eX3_worstPeace_14 : ev X m_X3_worstPeace 14 [vR r, a1, a2, a3, a4, a5, a6, a7] st mem = ev X m_X3_worstPeace 15 [vR r, a1, a2, a3, a4, a5, a6, a7] (vR r :: st) mem := ke_aload_n rfl dX3_worstPeace_14
theorem eX3_worstPeace_15 : ev X m_X3_worstPeace 15 [a0, a1, a2, a3, a4, a5, a6, a7] (vR r :: st) mem = evb X (fget mem r 3 0) m_X3_worstPeace 18 [a0, a1, a2, a3, a4, a5, a6, a7] st mem := ke_getf rfl dX3_worstPeace_15
theorem eX3_worstPeace_18 : ev X m_X3_worstPeace 18 [a0, a1, vI x, a3, a4, a5, a6, a7] st mem = ev X m_X3_worstPeace 19 [a0, a1, vI x, a3, a4, a5, a6, a7] (vI x :: st) mem := ke_iload_n rfl dX3_worstPeace_18
theorem eX3_worstPeace_19 : ev X m_X3_worstPeace 19 [a0, a1, a2, a3, a4, a5, a6, a7] st mem = ev X m_X3_worstPeace 21 [a0, a1, a2, a3, a4, a5, a6, a7] (vI 99 :: st) mem := ke_bipush (by decide) dX3_worstPeace_19
theorem eX3_worstPeace_21 : ev X m_X3_worstPeace 21 [a0, a1, a2, a3, a4, a5, a6, a7] (vI n2 :: vI n1 :: vR r0 :: []) mem = evc X (ev X m_X4_daysTillBrought 0 [vR r0, vI n1, vI n2, vS] [] mem) m_X3_worstPeace 24 [a0, a1, a2, a3, a4, a5, a6, a7] [] := ke_callS (m' := m_X4_daysTillBrought) (as := [vR r0, vI n1, vI n2]) (n := 3) (rest := []) dX3_worstPeace_21 rfl (by decide) rfl rfl rfl rfl rfl (Nat.le_of_ble_eq_true rfl) (Nat.le_of_ble_eq_true rfl) rfl
theorem eX3_worstPeace_24 : ev X m_X3_worstPeace 24 [a0, a1, a2, a3, a4, a5, a6, a7] (vI x :: st) mem = ev X m_X3_worstPeace 26 [a0, a1, a2, a3, vI x, a5, a6, a7] st mem := ke_istore (Nat.le_of_ble_eq_true rfl) rfl dX3_worstPeace_24
theorem eX3_worstPeace_26 : ev X m_X3_worstPeace 26 [a0, a1, a2, a3, a4, a5, a6, a7] st mem = ev X m_X3_worstPeace 28 [a0, a1, a2, a3, a4, a5, a6, a7] (vI (-9) :: st) mem := ke_bipush (by decide) dX3_worstPeace_26
theorem eX3_worstPeace_28 : ev X m_X3_worstPeace 28 [a0, a1, a2, a3, a4, a5, a6, a7] (vI x :: st) mem = ev X m_X3_worstPeace 30 [a0, a1, a2, a3, a4, vI x, a6, a7] st mem := ke_istore (Nat.le_of_ble_eq_true rfl) rfl dX3_worstPeace_28
theorem eX3_worstPeace_30 : ev X m_X3_worstPeace 30 [a0, a1, a2, a3, a4, a5, a6, a7] st mem = ev X m_X3_worstPeace 31 [a0, a1, a2, a3, a4, a5, a6, a7] (vI 0 :: st) mem := ke_iconst (by decide) dX3_worstPeace_30
theorem eX3_worstPeace_31 : ev X m_X3_worstPeace 31 [a0, a1, a2, a3, a4, a5, a6, a7] (vI x :: st) mem = ev X m_X3_worstPeace 33 [a0, a1, a2, a3, a4, a5, vI x, a7] st mem := ke_istore (Nat.le_of_ble_eq_true rfl) rfl dX3_worstPeace_31
theorem eX3_worstPeace_33 : ev X m_X3_worstPeace 33 [a0, a1, a2, a3, a4, a5, vI x, a7] st mem = ev X m_X3_worstPeace 35 [a0, a1, a2, a3, a4, a5, vI x, a7] (vI x :: st) mem := ke_iload rfl dX3_worstPeace_33
theorem eX3_worstPeace_35 : ev X m_X3_worstPeace 35 [a0, vR r, a2, a3, a4, a5, a6, a7] st mem = ev X m_X3_worstPeace 36 [a0, vR r, a2, a3, a4, a5, a6, a7] (vR r :: st) mem := ke_aload_n rfl dX3_worstPeace_35
theorem eX3_worstPeace_36 : ev X m_X3_worstPeace 36 [a0, a1, a2, a3, a4, a5, a6, a7] (vR r :: st) mem = evb X (fget mem r 0 0) m_X3_worstPeace 39 [a0, a1, a2, a3, a4, a5, a6, a7] st mem := ke_getf rfl dX3_worstPeace_36
theorem eX3_worstPeace_39 : ev X m_X3_worstPeace 39 [a0, a1, a2, a3, a4, a5, a6, a7] (vI y :: vI x :: st) mem = if x < y then ev X m_X3_worstPeace 42 [a0, a1, a2, a3, a4, a5, a6, a7] st mem else ev X m_X3_worstPeace 103 [a0, a1, a2, a3, a4, a5, a6, a7] st mem := ke_icmp_ge dX3_worstPeace_39 rfl
theorem eX3_worstPeace_42 : ev X m_X3_worstPeace 42 [a0, a1, a2, a3, a4, a5, vI x, a7] st mem = ev X m_X3_worstPeace 44 [a0, a1, a2, a3, a4, a5, vI x, a7] (vI x :: st) mem := ke_iload rfl dX3_worstPeace_42
theorem eX3_worstPeace_44 : ev X m_X3_worstPeace 44 [a0, a1, a2, vI x, a4, a5, a6, a7] st mem = ev X m_X3_worstPeace 45 [a0, a1, a2, vI x, a4, a5, a6, a7] (vI x :: st) mem := ke_iload_n rfl dX3_worstPeace_44
theorem eX3_worstPeace_45 : ev X m_X3_worstPeace 45 [a0, a1, a2, a3, a4, a5, a6, a7] (vI y :: vI x :: st) mem = if x = y then ev X m_X3_worstPeace 48 [a0, a1, a2, a3, a4, a5, a6, a7] st mem else ev X m_X3_worstPeace 51 [a0, a1, a2, a3, a4, a5, a6, a7] st mem := ke_icmp_ne dX3_worstPeace_45 rfl
theorem eX3_worstPeace_48 : ev X m_X3_worstPeace 48 [a0, a1, a2, a3, a4, a5, a6, a7] st mem = ev X m_X3_worstPeace 97 [a0, a1, a2, a3, a4, a5, a6, a7] st mem := ke_goto dX3_worstPeace_48 rfl
theorem eX3_worstPeace_51 : ev X m_X3_worstPeace 51 [vR r, a1, a2, a3, a4, a5, a6, a7] st mem = ev X m_X3_worstPeace 52 [vR r, a1, a2, a3, a4, a5, a6, a7] (vR r :: st) mem := ke_aload_n rfl dX3_worstPeace_51
theorem eX3_worstPeace_52 : ev X m_X3_worstPeace 52 [a0, a1, a2, a3, a4, a5, a6, a7] (vR r :: st) mem = evb X (fget mem r 3 0) m_X3_worstPeace 55 [a0, a1, a2, a3, a4, a5, a6, a7] st mem := ke_getf rfl dX3_worstPeace_52
theorem eX3_worstPeace_55 : ev X m_X3_worstPeace 55 [a0, vR r, a2, a3, a4, a5, a6, a7] st mem = ev X m_X3_worstPeace 56 [a0, vR r, a2, a3, a4, a5, a6, a7] (vR r :: st) mem := ke_aload_n rfl dX3_worstPeace_55
theorem eX3_worstPeace_56 : ev X m_X3_worstPeace 56 [a0, a1, a2, a3, a4, a5, a6, a7] (vR r0 :: vR r :: []) mem = evc X (gR mem r 0 (ev X m_X0_become 0 [vR r, vR r0] [] mem)) m_X3_worstPeace 59 [a0, a1, a2, a3, a4, a5, a6, a7] [] := ke_callV (m' := m_X0_become) (as := [vR r0]) (n := 1) (rest := []) dX3_worstPeace_56 rfl rfl rfl rfl rfl rfl (Nat.le_of_ble_eq_true rfl) (Nat.le_of_ble_eq_true rfl) (Nat.le_of_ble_eq_true rfl) rfl
theorem eX3_worstPeace_59 : ev X m_X3_worstPeace 59 [vR r, a1, a2, a3, a4, a5, a6, a7] st mem = ev X m_X3_worstPeace 60 [vR r, a1, a2, a3, a4, a5, a6, a7] (vR r :: st) mem := ke_aload_n rfl dX3_worstPeace_59
theorem eX3_worstPeace_60 : ev X m_X3_worstPeace 60 [a0, a1, a2, a3, a4, a5, a6, a7] (vR r :: st) mem = evb X (fget mem r 3 0) m_X3_worstPeace 63 [a0, a1, a2, a3, a4, a5, a6, a7] st mem := ke_getf rfl dX3_worstPeace_60
theorem eX3_worstPeace_63 : ev X m_X3_worstPeace 63 [a0, a1, a2, vI x, a4, a5, a6, a7] st mem = ev X m_X3_worstPeace 64 [a0, a1, a2, vI x, a4, a5, a6, a7] (vI x :: st) mem := ke_iload_n rfl dX3_worstPeace_63
theorem eX3_worstPeace_64 : ev X m_X3_worstPeace 64 [a0, a1, a2, a3, a4, a5, vI x, a7] st mem = ev X m_X3_worstPeace 66 [a0, a1, a2, a3, a4, a5, vI x, a7] (vI x :: st) mem := ke_iload rfl dX3_worstPeace_64
theorem eX3_worstPeace_66 : ev X m_X3_worstPeace 66 [a0, a1, a2, a3, a4, a5, a6, a7] (vI n1 :: vI n0 :: vR r :: []) mem = evc X (gR mem r 0 (ev X m_X0_makePeace 0 [vR r, vI n0, vI n1] [] mem)) m_X3_worstPeace 69 [a0, a1, a2, a3, a4, a5, a6, a7] [] := ke_callV (m' := m_X0_makePeace) (as := [vI n0, vI n1]) (n := 2) (rest := []) dX3_worstPeace_66 rfl rfl rfl rfl rfl rfl (Nat.le_of_ble_eq_true rfl) (Nat.le_of_ble_eq_true rfl) (Nat.le_of_ble_eq_true rfl) rfl
theorem eX3_worstPeace_69 : ev X m_X3_worstPeace 69 [a0, a1, a2, a3, a4, a5, a6, a7] (vI x :: st) mem = ev X m_X3_worstPeace 70 [a0, a1, a2, a3, a4, a5, a6, a7] st mem := ke_popI dX3_worstPeace_69
theorem eX3_worstPeace_69r : ev X m_X3_worstPeace 69 [a0, a1, a2, a3, a4, a5, a6, a7] (vR r :: st) mem = ev X m_X3_worstPeace 70 [a0, a1, a2, a3, a4, a5, a6, a7] st mem := ke_popR dX3_worstPeace_69
theorem eX3_worstPeace_70 : ev X m_X3_worstPeace 70 [vR r, a1, a2, a3, a4, a5, a6, a7] st mem = ev X m_X3_worstPeace 71 [vR r, a1, a2, a3, a4, a5, a6, a7] (vR r :: st) mem := ke_aload_n rfl dX3_worstPeace_70
theorem eX3_worstPeace_71 : ev X m_X3_worstPeace 71 [a0, a1, a2, a3, a4, a5, a6, a7] (vR r :: st) mem = evb X (fget mem r 3 0) m_X3_worstPeace 74 [a0, a1, a2, a3, a4, a5, a6, a7] st mem := ke_getf rfl dX3_worstPeace_71
theorem eX3_worstPeace_74 : ev X m_X3_worstPeace 74 [a0, a1, vI x, a3, a4, a5, a6, a7] st mem = ev X m_X3_worstPeace 75 [a0, a1, vI x, a3, a4, a5, a6, a7] (vI x :: st) mem := ke_iload_n rfl dX3_worstPeace_74
theorem eX3_worstPeace_75 : ev X m_X3_worstPeace 75 [a0, a1, a2, a3, a4, a5, a6, a7] st mem = ev X m_X3_worstPeace 77 [a0, a1, a2, a3, a4, a5, a6, a7] (vI 99 :: st) mem := ke_bipush (by decide) dX3_worstPeace_75
theorem eX3_worstPeace_77 : ev X m_X3_worstPeace 77 [a0, a1, a2, a3, a4, a5, a6, a7] (vI n2 :: vI n1 :: vR r0 :: []) mem = evc X (ev X m_X4_daysTillBrought 0 [vR r0, vI n1, vI n2, vS] [] mem) m_X3_worstPeace 80 [a0, a1, a2, a3, a4, a5, a6, a7] [] := ke_callS (m' := m_X4_daysTillBrought) (as := [vR r0, vI n1, vI n2]) (n := 3) (rest := []) dX3_worstPeace_77 rfl (by decide) rfl rfl rfl rfl rfl (Nat.le_of_ble_eq_true rfl) (Nat.le_of_ble_eq_true rfl) rfl
theorem eX3_worstPeace_80 : ev X m_X3_worstPeace 80 [a0, a1, a2, a3, a4, a5, a6, a7] (vI x :: st) mem = ev X m_X3_worstPeace 82 [a0, a1, a2, a3, a4, a5, a6, vI x] st mem := ke_istore (Nat.le_of_ble_eq_true rfl) rfl dX3_worstPeace_80
theorem eX3_worstPeace_82 : ev X m_X3_worstPeace 82 [a0, a1, a2, a3, a4, a5, a6, vI x] st mem = ev X m_X3_worstPeace 84 [a0, a1, a2, a3, a4, a5, a6, vI x] (vI x :: st) mem := ke_iload rfl dX3_worstPeace_82
theorem eX3_worstPeace_84 : ev X m_X3_worstPeace 84 [a0, a1, a2, a3, vI x, a5, a6, a7] st mem = ev X m_X3_worstPeace 86 [a0, a1, a2, a3, vI x, a5, a6, a7] (vI x :: st) mem := ke_iload rfl dX3_worstPeace_84
theorem eX3_worstPeace_86 : ev X m_X3_worstPeace 86 [a0, a1, a2, a3, a4, a5, a6, a7] (vI y :: vI x :: st) mem = if y < x then ev X m_X3_worstPeace 89 [a0, a1, a2, a3, a4, a5, a6, a7] st mem else ev X m_X3_worstPeace 97 [a0, a1, a2, a3, a4, a5, a6, a7] st mem := ke_icmp_le dX3_worstPeace_86 rfl
theorem eX3_worstPeace_89 : ev X m_X3_worstPeace 89 [a0, a1, a2, a3, a4, a5, a6, vI x] st mem = ev X m_X3_worstPeace 91 [a0, a1, a2, a3, a4, a5, a6, vI x] (vI x :: st) mem := ke_iload rfl dX3_worstPeace_89
theorem eX3_worstPeace_91 : ev X m_X3_worstPeace 91 [a0, a1, a2, a3, a4, a5, a6, a7] (vI x :: st) mem = ev X m_X3_worstPeace 93 [a0, a1, a2, a3, vI x, a5, a6, a7] st mem := ke_istore (Nat.le_of_ble_eq_true rfl) rfl dX3_worstPeace_91
theorem eX3_worstPeace_93 : ev X m_X3_worstPeace 93 [a0, a1, a2, a3, a4, a5, vI x, a7] st mem = ev X m_X3_worstPeace 95 [a0, a1, a2, a3, a4, a5, vI x, a7] (vI x :: st) mem := ke_iload rfl dX3_worstPeace_93
theorem eX3_worstPeace_95 : ev X m_X3_worstPeace 95 [a0, a1, a2, a3, a4, a5, a6, a7] (vI x :: st) mem = ev X m_X3_worstPeace 97 [a0, a1, a2, a3, a4, vI x, a6, a7] st mem := ke_istore (Nat.le_of_ble_eq_true rfl) rfl dX3_worstPeace_95
theorem eX3_worstPeace_97 : ev X m_X3_worstPeace 97 [a0, a1, a2, a3, a4, a5, vI x, a7] st mem = ev X m_X3_worstPeace 100 [a0, a1, a2, a3, a4, a5, vI (w32 (x + 1)), a7] st mem := ke_iinc rfl (Nat.le_of_ble_eq_true rfl) rfl dX3_worstPeace_97
theorem eX3_worstPeace_100 : ev X m_X3_worstPeace 100 [a0, a1, a2, a3, a4, a5, a6, a7] st mem = ev X m_X3_worstPeace 33 [a0, a1, a2, a3, a4, a5, a6, a7] st mem := ke_goto dX3_worstPeace_100 rfl
theorem eX3_worstPeace_103 : ev X m_X3_worstPeace 103 [a0, a1, a2, a3, a4, vI x, a6, a7] st mem = ev X m_X3_worstPeace 105 [a0, a1, a2, a3, a4, vI x, a6, a7] (vI x :: st) mem := ke_iload rfl dX3_worstPeace_103
theorem eX3_worstPeace_105 : ev X m_X3_worstPeace 105 [a0, a1, a2, a3, a4, a5, a6, a7] [vI x] mem = some (some (vI x), mem) := ke_ireturn dX3_worstPeace_105 rfl
theorem eX4_post_0 : ev X m_X4_post 0 [vR r, a1, a2] st mem = ev X m_X4_post 1 [vR r, a1, a2] (vR r :: st) mem := ke_aload_n rfl dX4_post_0
theorem eX4_post_1 : ev X m_X4_post 1 [a0, a1, a2] (vR r :: st) mem = evb X (fget mem r 4 0) m_X4_post 4 [a0, a1, a2] st mem := ke_getf rfl dX4_post_1
theorem eX4_post_4 : ev X m_X4_post 4 [a0, vI x, a2] st mem = ev X m_X4_post 5 [a0, vI x, a2] (vI x :: st) mem := ke_iload_n rfl dX4_post_4
theorem eX4_post_5 : ev X m_X4_post 5 [a0, a1, a2] (vI n0 :: vR r :: []) mem = evc X (gR mem r 0 (ev X m_X0_hasPerson 0 [vR r, vI n0] [] mem)) m_X4_post 8 [a0, a1, a2] [] := ke_callV (m' := m_X0_hasPerson) (as := [vI n0]) (n := 1) (rest := []) dX4_post_5 rfl rfl rfl rfl rfl rfl (Nat.le_of_ble_eq_true rfl) (Nat.le_of_ble_eq_true rfl) (Nat.le_of_ble_eq_true rfl) rfl
theorem eX4_post_8 : ev X m_X4_post 8 [a0, a1, a2] (vI x :: st) mem = if x = 0 then ev X m_X4_post 11 [a0, a1, a2] st mem else ev X m_X4_post 17 [a0, a1, a2] st mem := ke_if_ne dX4_post_8 rfl
theorem eX4_post_11 : ev X m_X4_post 11 [vR r, a1, a2] st mem = ev X m_X4_post 12 [vR r, a1, a2] (vR r :: st) mem := ke_aload_n rfl dX4_post_11
theorem eX4_post_12 : ev X m_X4_post 12 [a0, a1, a2] st mem = ev X m_X4_post 13 [a0, a1, a2] (vI (-1) :: st) mem := ke_iconst (by decide) dX4_post_12
theorem eX4_post_13 : ev X m_X4_post 13 [a0, a1, a2] (vI n0 :: vR r :: []) mem = evc X (gR mem r 4 (ev X m_X4_refuse 0 [vR r, vI n0] [] mem)) m_X4_post 16 [a0, a1, a2] [] := ke_callV (m' := m_X4_refuse) (as := [vI n0]) (n := 1) (rest := []) dX4_post_13 rfl rfl rfl rfl rfl rfl (Nat.le_of_ble_eq_true rfl) (Nat.le_of_ble_eq_true rfl) (Nat.le_of_ble_eq_true rfl) rfl
theorem eX4_post_16 : ev X m_X4_post 16 [a0, a1, a2] [vI x] mem = some (some (vI x), mem) := ke_ireturn dX4_post_16 rfl
theorem eX4_post_17 : ev X m_X4_post 17 [a0, a1, vI x] st mem = ev X m_X4_post 18 [a0, a1, vI x] (vI x :: st) mem := ke_iload_n rfl dX4_post_17
theorem eX4_post_18 : ev X m_X4_post 18 [a0, a1, a2] (vI x :: st) mem = if x < 0 then ev X m_X4_post 26 [a0, a1, a2] st mem else ev X m_X4_post 21 [a0, a1, a2] st mem := ke_if_lt dX4_post_18 rfl
theorem eX4_post_21 : ev X m_X4_post 21 [a0, a1, vI x] st mem = ev X m_X4_post 22 [a0, a1, vI x] (vI x :: st) mem := ke_iload_n rfl dX4_post_21
theorem eX4_post_22 : ev X m_X4_post 22 [a0, a1, a2] st mem = ev X m_X4_post 23 [a0, a1, a2] (vI 1 :: st) mem := ke_iconst (by decide) dX4_post_22
theorem eX4_post_23 : ev X m_X4_post 23 [a0, a1, a2] (vI y :: vI x :: st) mem = if y < x then ev X m_X4_post 26 [a0, a1, a2] st mem else ev X m_X4_post 33 [a0, a1, a2] st mem := ke_icmp_le dX4_post_23 rfl
theorem eX4_post_26 : ev X m_X4_post 26 [vR r, a1, a2] st mem = ev X m_X4_post 27 [vR r, a1, a2] (vR r :: st) mem := ke_aload_n rfl dX4_post_26
theorem eX4_post_27 : ev X m_X4_post 27 [a0, a1, a2] st mem = ev X m_X4_post 29 [a0, a1, a2] (vI (-2) :: st) mem := ke_bipush (by decide) dX4_post_27
theorem eX4_post_29 : ev X m_X4_post 29 [a0, a1, a2] (vI n0 :: vR r :: []) mem = evc X (gR mem r 4 (ev X m_X4_refuse 0 [vR r, vI n0] [] mem)) m_X4_post 32 [a0, a1, a2] [] := ke_callV (m' := m_X4_refuse) (as := [vI n0]) (n := 1) (rest := []) dX4_post_29 rfl rfl rfl rfl rfl rfl (Nat.le_of_ble_eq_true rfl) (Nat.le_of_ble_eq_true rfl) (Nat.le_of_ble_eq_true rfl) rfl
theorem eX4_post_32 : ev X m_X4_post 32 [a0, a1, a2] [vI x] mem = some (some (vI x), mem) := ke_ireturn dX4_post_32 rfl
theorem eX4_post_33 : ev X m_X4_post 33 [vR r, a1, a2] st mem = ev X m_X4_post 34 [vR r, a1, a2] (vR r :: st) mem := ke_aload_n rfl dX4_post_33
theorem eX4_post_34 : ev X m_X4_post 34 [a0, a1, a2] (vR r :: st) mem = evb X (fget mem r 4 3) m_X4_post 37 [a0, a1, a2] st mem := ke_getf rfl dX4_post_34
theorem eX4_post_37 : ev X m_X4_post 37 [vR r, a1, a2] st mem = ev X m_X4_post 38 [vR r, a1, a2] (vR r :: st) mem := ke_aload_n rfl dX4_post_37
theorem eX4_post_38 : ev X m_X4_post 38 [a0, a1, a2] (vR r :: st) mem = evb X (fget mem r 4 0) m_X4_post 41 [a0, a1, a2] st mem := ke_getf rfl dX4_post_38
theorem eX4_post_41 : ev X m_X4_post 41 [a0, vI x, a2] st mem = ev X m_X4_post 42 [a0, vI x, a2] (vI x :: st) mem := ke_iload_n rfl dX4_post_41
theorem eX4_post_42 : ev X m_X4_post 42 [a0, a1, vI x] st mem = ev X m_X4_post 43 [a0, a1, vI x] (vI x :: st) mem := ke_iload_n rfl dX4_post_42
theorem eX4_post_43 : ev X m_X4_post 43 [a0, a1, a2] st mem = ev X m_X4_post 44 [a0, a1, a2] (vI 1 :: st) mem := ke_iconst (by decide) dX4_post_43
theorem eX4_post_44 : ev X m_X4_post 44 [a0, a1, a2] (vI y :: vI x :: st) mem = if x = y then ev X m_X4_post 47 [a0, a1, a2] st mem else ev X m_X4_post 51 [a0, a1, a2] st mem := ke_icmp_ne dX4_post_44 rfl
theorem eX4_post_47 : ev X m_X4_post 47 [a0, a1, a2] st mem = ev X m_X4_post 48 [a0, a1, a2] (vI 1 :: st) mem := ke_iconst (by decide) dX4_post_47
theorem eX4_post_48 : ev X m_X4_post 48 [a0, a1, a2] st mem = ev X m_X4_post 52 [a0, a1, a2] st mem := ke_goto dX4_post_48 rfl
theorem eX4_post_51 : ev X m_X4_post 51 [a0, a1, a2] st mem = ev X m_X4_post 52 [a0, a1, a2] (vI 0 :: st) mem := ke_iconst (by decide) dX4_post_51
theorem eX4_post_52 : ev X m_X4_post 52 [a0, a1, a2] (vI n2 :: vI n1 :: vR r0 :: vR r :: []) mem = evc X (gR mem r 3 (ev X m_X3_bestPosting 0 [vR r, vR r0, vI n1, vI n2, vS, vS, vS, vS] [] mem)) m_X4_post 55 [a0, a1, a2] [] := ke_callV (m' := m_X3_bestPosting) (as := [vR r0, vI n1, vI n2]) (n := 3) (rest := []) dX4_post_52 rfl rfl rfl rfl rfl rfl (Nat.le_of_ble_eq_true rfl) (Nat.le_of_ble_eq_true rfl) (Nat.le_of_ble_eq_true rfl) rfl
theorem eX4_post_55 : ev X m_X4_post 55 [a0, a1, a2] [vI x] mem = some (some (vI x), mem) := ke_ireturn dX4_post_55 rfl
theorem eX3_bestPosting_0 : ev X m_X3_bestPosting 0 [a0, a1, a2, a3, a4, a5, a6, a7] st mem = ev X m_X3_bestPosting 2 [a0, a1, a2, a3, a4, a5, a6, a7] (vI 100 :: st) mem := ke_bipush (by decide) dX3_bestPosting_0
theorem eX3_bestPosting_2 : ev X m_X3_bestPosting 2 [a0, a1, a2, a3, a4, a5, a6, a7] (vI x :: st) mem = ev X m_X3_bestPosting 4 [a0, a1, a2, a3, vI x, a5, a6, a7] st mem := ke_istore (Nat.le_of_ble_eq_true rfl) rfl dX3_bestPosting_2
theorem eX3_bestPosting_4 : ev X m_X3_bestPosting 4 [a0, a1, a2, a3, a4, a5, a6, a7] st mem = ev X m_X3_bestPosting 6 [a0, a1, a2, a3, a4, a5, a6, a7] (vI (-9) :: st) mem := ke_bipush (by decide) dX3_bestPosting_4
theorem eX3_bestPosting_6 : ev X m_X3_bestPosting 6 [a0, a1, a2, a3, a4, a5, a6, a7] (vI x :: st) mem = ev X m_X3_bestPosting 8 [a0, a1, a2, a3, a4, vI x, a6, a7] st mem := ke_istore (Nat.le_of_ble_eq_true rfl) rfl dX3_bestPosting_6
theorem eX3_bestPosting_8 : ev X m_X3_bestPosting 8 [vR r, a1, a2, a3, a4, a5, a6, a7] st mem = ev X m_X3_bestPosting 9 [vR r, a1, a2, a3, a4, a5, a6, a7] (vR r :: st) mem := ke_aload_n rfl dX3_bestPosting_8
theorem eX3_bestPosting_9 : ev X m_X3_bestPosting 9 [a0, a1, a2, a3, a4, a5, a6, a7] (vR r :: st) mem = evb X (fget mem r 3 0) m_X3_bestPosting 12 [a0, a1, a2, a3, a4, a5, a6, a7] st mem := ke_getf rfl dX3_bestPosting_9
theorem eX3_bestPosting_12 : ev X m_X3_bestPosting 12 [a0, vR r, a2, a3, a4, a5, a6, a7] st mem = ev X m_X3_bestPosting 13 [a0, vR r, a2, a3, a4, a5, a6, a7] (vR r :: st) mem := ke_aload_n rfl dX3_bestPosting_12
theorem eX3_bestPosting_13 : ev X m_X3_bestPosting 13 [a0, a1, a2, a3, a4, a5, a6, a7] (vR r0 :: vR r :: []) mem = evc X (gR mem r 0 (ev X m_X0_become 0 [vR r, vR r0] [] mem)) m_X3_bestPosting 16 [a0, a1, a2, a3, a4, a5, a6, a7] [] := ke_callV (m' := m_X0_become) (as := [vR r0]) (n := 1) (rest := []) dX3_bestPosting_13 rfl rfl rfl rfl rfl rfl (Nat.le_of_ble_eq_true rfl) (Nat.le_of_ble_eq_true rfl) (Nat.le_of_ble_eq_true rfl) rfl
theorem eX3_bestPosting_16 : ev X m_X3_bestPosting 16 [a0, a1, a2, a3, a4, a5, a6, a7] st mem = ev X m_X3_bestPosting 17 [a0, a1, a2, a3, a4, a5, a6, a7] (vI 0 :: st) mem := ke_iconst (by decide) dX3_bestPosting_16
theorem eX3_bestPosting_17 : ev X m_X3_bestPosting 17 [a0, a1, a2, a3, a4, a5, a6, a7] (vI x :: st) mem = ev X m_X3_bestPosting 19 [a0, a1, a2, a3, a4, a5, vI x, a7] st mem := ke_istore (Nat.le_of_ble_eq_true rfl) rfl dX3_bestPosting_17
theorem eX3_bestPosting_19 : ev X m_X3_bestPosting 19 [a0, a1, a2, a3, a4, a5, vI x, a7] st mem = ev X m_X3_bestPosting 21 [a0, a1, a2, a3, a4, a5, vI x, a7] (vI x :: st) mem := ke_iload rfl dX3_bestPosting_19
theorem eX3_bestPosting_21 : ev X m_X3_bestPosting 21 [a0, a1, a2, a3, a4, a5, a6, a7] st mem = ev X m_X3_bestPosting 23 [a0, a1, a2, a3, a4, a5, a6, a7] (vI 30 :: st) mem := ke_bipush (by decide) dX3_bestPosting_21
theorem eX3_bestPosting_23 : ev X m_X3_bestPosting 23 [a0, a1, a2, a3, a4, a5, a6, a7] (vI y :: vI x :: st) mem = if y < x then ev X m_X3_bestPosting 107 [a0, a1, a2, a3, a4, a5, a6, a7] st mem else ev X m_X3_bestPosting 26 [a0, a1, a2, a3, a4, a5, a6, a7] st mem := ke_icmp_gt dX3_bestPosting_23 rfl
theorem eX3_bestPosting_26 : ev X m_X3_bestPosting 26 [vR r, a1, a2, a3, a4, a5, a6, a7] st mem = ev X m_X3_bestPosting 27 [vR r, a1, a2, a3, a4, a5, a6, a7] (vR r :: st) mem := ke_aload_n rfl dX3_bestPosting_26
theorem eX3_bestPosting_27 : ev X m_X3_bestPosting 27 [a0, a1, a2, a3, a4, a5, a6, a7] (vR r :: st) mem = evb X (fget mem r 3 1) m_X3_bestPosting 30 [a0, a1, a2, a3, a4, a5, a6, a7] st mem := ke_getf rfl dX3_bestPosting_27
theorem eX3_bestPosting_30 : ev X m_X3_bestPosting 30 [vR r, a1, a2, a3, a4, a5, a6, a7] st mem = ev X m_X3_bestPosting 31 [vR r, a1, a2, a3, a4, a5, a6, a7] (vR r :: st) mem := ke_aload_n rfl dX3_bestPosting_30
theorem eX3_bestPosting_31 : ev X m_X3_bestPosting 31 [a0, a1, a2, a3, a4, a5, a6, a7] (vR r :: st) mem = evb X (fget mem r 3 0) m_X3_bestPosting 34 [a0, a1, a2, a3, a4, a5, a6, a7] st mem := ke_getf rfl dX3_bestPosting_31
theorem eX3_bestPosting_34 : ev X m_X3_bestPosting 34 [a0, a1, a2, a3, a4, a5, a6, a7] (vR r0 :: vR r :: []) mem = evc X (gR mem r 0 (ev X m_X0_become 0 [vR r, vR r0] [] mem)) m_X3_bestPosting 37 [a0, a1, a2, a3, a4, a5, a6, a7] [] := ke_callV (m' := m_X0_become) (as := [vR r0]) (n := 1) (rest := []) dX3_bestPosting_34 rfl rfl rfl rfl rfl rfl (Nat.le_of_ble_eq_true rfl) (Nat.le_of_ble_eq_true rfl) (Nat.le_of_ble_eq_true rfl) rfl
theorem eX3_bestPosting_37 : ev X m_X3_bestPosting 37 [vR r, a1, a2, a3, a4, a5, a6, a7] st mem = ev X m_X3_bestPosting 38 [vR r, a1, a2, a3, a4, a5, a6, a7] (vR r :: st) mem := ke_aload_n rfl dX3_bestPosting_37
theorem eX3_bestPosting_38 : ev X m_X3_bestPosting 38 [a0, a1, a2, a3, a4, a5, a6, a7] (vR r :: st) mem = evb X (fget mem r 3 1) m_X3_bestPosting 41 [a0, a1, a2, a3, a4, a5, a6, a7] st mem := ke_getf rfl dX3_bestPosting_38
theorem eX3_bestPosting_41 : ev X m_X3_bestPosting 41 [a0, a1, vI x, a3, a4, a5, a6, a7] st mem = ev X m_X3_bestPosting 42 [a0, a1, vI x, a3, a4, a5, a6, a7] (vI x :: st) mem := ke_iload_n rfl dX3_bestPosting_41
theorem eX3_bestPosting_42 : ev X m_X3_bestPosting 42 [a0, a1, a2, a3, a4, a5, a6, a7] st mem = ev X m_X3_bestPosting 43 [a0, a1, a2, a3, a4, a5, a6, a7] (vI 0 :: st) mem := ke_iconst (by decide) dX3_bestPosting_42
theorem eX3_bestPosting_43 : ev X m_X3_bestPosting 43 [a0, a1, a2, a3, a4, a5, a6, a7] (vI n1 :: vI n0 :: vR r :: []) mem = evc X (gR mem r 0 (ev X m_X0_addParcel 0 [vR r, vI n0, vI n1] [] mem)) m_X3_bestPosting 46 [a0, a1, a2, a3, a4, a5, a6, a7] [] := ke_callV (m' := m_X0_addParcel) (as := [vI n0, vI n1]) (n := 2) (rest := []) dX3_bestPosting_43 rfl rfl rfl rfl rfl rfl (Nat.le_of_ble_eq_true rfl) (Nat.le_of_ble_eq_true rfl) (Nat.le_of_ble_eq_true rfl) rfl
theorem eX3_bestPosting_46 : ev X m_X3_bestPosting 46 [a0, a1, a2, a3, a4, a5, a6, a7] (vI x :: st) mem = if x = 0 then ev X m_X3_bestPosting 49 [a0, a1, a2, a3, a4, a5, a6, a7] st mem else ev X m_X3_bestPosting 52 [a0, a1, a2, a3, a4, a5, a6, a7] st mem := ke_if_ne dX3_bestPosting_46 rfl
theorem eX3_bestPosting_49 : ev X m_X3_bestPosting 49 [a0, a1, a2, a3, a4, a5, a6, a7] st mem = ev X m_X3_bestPosting 51 [a0, a1, a2, a3, a4, a5, a6, a7] (vI (-9) :: st) mem := ke_bipush (by decide) dX3_bestPosting_49
theorem eX3_bestPosting_51 : ev X m_X3_bestPosting 51 [a0, a1, a2, a3, a4, a5, a6, a7] [vI x] mem = some (some (vI x), mem) := ke_ireturn dX3_bestPosting_51 rfl
theorem eX3_bestPosting_52 : ev X m_X3_bestPosting 52 [a0, a1, a2, a3, a4, a5, vI x, a7] st mem = ev X m_X3_bestPosting 54 [a0, a1, a2, a3, a4, a5, vI x, a7] (vI x :: st) mem := ke_iload rfl dX3_bestPosting_52
theorem eX3_bestPosting_54 : ev X m_X3_bestPosting 54 [vR r, a1, a2, a3, a4, a5, a6, a7] st mem = ev X m_X3_bestPosting 55 [vR r, a1, a2, a3, a4, a5, a6, a7] (vR r :: st) mem := ke_aload_n rfl dX3_bestPosting_54
theorem eX3_bestPosting_55 : ev X m_X3_bestPosting 55 [a0, a1, a2, a3, a4, a5, a6, a7] (vR r :: st) mem = evb X (fget mem r 3 1) m_X3_bestPosting 58 [a0, a1, a2, a3, a4, a5, a6, a7] st mem := ke_getf rfl dX3_bestPosting_55
theorem eX3_bestPosting_58 : ev X m_X3_bestPosting 58 [vR r, a1, a2, a3, a4, a5, a6, a7] st mem = ev X m_X3_bestPosting 59 [vR r, a1, a2, a3, a4, a5, a6, a7] (vR r :: st) mem := ke_aload_n rfl dX3_bestPosting_58
theorem eX3_bestPosting_59 : ev X m_X3_bestPosting 59 [a0, a1, a2, a3, a4, a5, a6, a7] (vR r :: st) mem = evb X (fget mem r 3 1) m_X3_bestPosting 62 [a0, a1, a2, a3, a4, a5, a6, a7] st mem := ke_getf rfl dX3_bestPosting_59
theorem eX3_bestPosting_62 : ev X m_X3_bestPosting 62 [a0, a1, a2, a3, a4, a5, a6, a7] (vR r :: st) mem = evb X (fget mem r 0 1) m_X3_bestPosting 65 [a0, a1, a2, a3, a4, a5, a6, a7] st mem := ke_getf rfl dX3_bestPosting_62
theorem eX3_bestPosting_65 : ev X m_X3_bestPosting 65 [a0, a1, a2, a3, a4, a5, a6, a7] st mem = ev X m_X3_bestPosting 66 [a0, a1, a2, a3, a4, a5, a6, a7] (vI 1 :: st) mem := ke_iconst (by decide) dX3_bestPosting_65
theorem eX3_bestPosting_66 : ev X m_X3_bestPosting 66 [a0, a1, a2, a3, a4, a5, a6, a7] (vI y :: vI x :: st) mem = ev X m_X3_bestPosting 67 [a0, a1, a2, a3, a4, a5, a6, a7] (vI (w32 (x - y)) :: st) mem := ke_isub dX3_bestPosting_66
theorem eX3_bestPosting_67 : ev X m_X3_bestPosting 67 [a0, a1, a2, a3, a4, a5, a6, a7] st mem = ev X m_X3_bestPosting 69 [a0, a1, a2, a3, a4, a5, a6, a7] (vI 99 :: st) mem := ke_bipush (by decide) dX3_bestPosting_67
theorem eX3_bestPosting_69 : ev X m_X3_bestPosting 69 [a0, a1, a2, a3, a4, a5, vI x, a7] st mem = ev X m_X3_bestPosting 71 [a0, a1, a2, a3, a4, a5, vI x, a7] (vI x :: st) mem := ke_iload rfl dX3_bestPosting_69
theorem eX3_bestPosting_71 : ev X m_X3_bestPosting 71 [a0, a1, a2, a3, a4, a5, a6, a7] (vI y :: vI x :: st) mem = ev X m_X3_bestPosting 72 [a0, a1, a2, a3, a4, a5, a6, a7] (vI (w32 (x - y)) :: st) mem := ke_isub dX3_bestPosting_71
theorem eX3_bestPosting_72 : ev X m_X3_bestPosting 72 [a0, a1, a2, a3, a4, a5, a6, a7] (vI n2 :: vI n1 :: vR r0 :: [s0]) mem = evc X (ev X m_X4_daysTillBrought 0 [vR r0, vI n1, vI n2, vS] [] mem) m_X3_bestPosting 75 [a0, a1, a2, a3, a4, a5, a6, a7] [s0] := ke_callS (m' := m_X4_daysTillBrought) (as := [vR r0, vI n1, vI n2]) (n := 3) (rest := [s0]) dX3_bestPosting_72 rfl (by decide) rfl rfl rfl rfl rfl (Nat.le_of_ble_eq_true rfl) (Nat.le_of_ble_eq_true rfl) rfl
theorem eX3_bestPosting_75 : ev X m_X3_bestPosting 75 [a0, a1, a2, a3, a4, a5, a6, a7] (vI y :: vI x :: st) mem = ev X m_X3_bestPosting 76 [a0, a1, a2, a3, a4, a5, a6, a7] (vI (w32 (x + y)) :: st) mem := ke_iadd dX3_bestPosting_75
theorem eX3_bestPosting_76 : ev X m_X3_bestPosting 76 [a0, a1, a2, a3, a4, a5, a6, a7] (vI x :: st) mem = ev X m_X3_bestPosting 78 [a0, a1, a2, a3, a4, a5, a6, vI x] st mem := ke_istore (Nat.le_of_ble_eq_true rfl) rfl dX3_bestPosting_76
theorem eX3_bestPosting_78 : ev X m_X3_bestPosting 78 [a0, a1, a2, a3, a4, a5, a6, vI x] st mem = ev X m_X3_bestPosting 80 [a0, a1, a2, a3, a4, a5, a6, vI x] (vI x :: st) mem := ke_iload rfl dX3_bestPosting_78
theorem eX3_bestPosting_80 : ev X m_X3_bestPosting 80 [a0, a1, a2, a3, vI x, a5, a6, a7] st mem = ev X m_X3_bestPosting 82 [a0, a1, a2, a3, vI x, a5, a6, a7] (vI x :: st) mem := ke_iload rfl dX3_bestPosting_80
theorem eX3_bestPosting_82 : ev X m_X3_bestPosting 82 [a0, a1, a2, a3, a4, a5, a6, a7] (vI y :: vI x :: st) mem = if x < y then ev X m_X3_bestPosting 85 [a0, a1, a2, a3, a4, a5, a6, a7] st mem else ev X m_X3_bestPosting 93 [a0, a1, a2, a3, a4, a5, a6, a7] st mem := ke_icmp_ge dX3_bestPosting_82 rfl
theorem eX3_bestPosting_85 : ev X m_X3_bestPosting 85 [a0, a1, a2, a3, a4, a5, a6, vI x] st mem = ev X m_X3_bestPosting 87 [a0, a1, a2, a3, a4, a5, a6, vI x] (vI x :: st) mem := ke_iload rfl dX3_bestPosting_85
theorem eX3_bestPosting_87 : ev X m_X3_bestPosting 87 [a0, a1, a2, a3, a4, a5, a6, a7] (vI x :: st) mem = ev X m_X3_bestPosting 89 [a0, a1, a2, a3, vI x, a5, a6, a7] st mem := ke_istore (Nat.le_of_ble_eq_true rfl) rfl dX3_bestPosting_87
theorem eX3_bestPosting_89 : ev X m_X3_bestPosting 89 [a0, a1, a2, a3, a4, a5, vI x, a7] st mem = ev X m_X3_bestPosting 91 [a0, a1, a2, a3, a4, a5, vI x, a7] (vI x :: st) mem := ke_iload rfl dX3_bestPosting_89
theorem eX3_bestPosting_91 : ev X m_X3_bestPosting 91 [a0, a1, a2, a3, a4, a5, a6, a7] (vI x :: st) mem = ev X m_X3_bestPosting 93 [a0, a1, a2, a3, a4, vI x, a6, a7] st mem := ke_istore (Nat.le_of_ble_eq_true rfl) rfl dX3_bestPosting_91
theorem eX3_bestPosting_93 : ev X m_X3_bestPosting 93 [vR r, a1, a2, a3, a4, a5, a6, a7] st mem = ev X m_X3_bestPosting 94 [vR r, a1, a2, a3, a4, a5, a6, a7] (vR r :: st) mem := ke_aload_n rfl dX3_bestPosting_93
theorem eX3_bestPosting_94 : ev X m_X3_bestPosting 94 [a0, a1, a2, a3, a4, a5, a6, a7] (vR r :: st) mem = evb X (fget mem r 3 0) m_X3_bestPosting 97 [a0, a1, a2, a3, a4, a5, a6, a7] st mem := ke_getf rfl dX3_bestPosting_94
theorem eX3_bestPosting_97 : ev X m_X3_bestPosting 97 [a0, a1, a2, a3, a4, a5, a6, a7] st mem = ev X m_X3_bestPosting 98 [a0, a1, a2, a3, a4, a5, a6, a7] (vI 0 :: st) mem := ke_iconst (by decide) dX3_bestPosting_97
theorem eX3_bestPosting_98 : ev X m_X3_bestPosting 98 [a0, a1, a2, a3, a4, a5, a6, a7] (vI n0 :: vR r :: []) mem = evc X (gR mem r 0 (ev X m_X0_passDay 0 [vR r, vI n0] [] mem)) m_X3_bestPosting 101 [a0, a1, a2, a3, a4, a5, a6, a7] [] := ke_callV (m' := m_X0_passDay) (as := [vI n0]) (n := 1) (rest := []) dX3_bestPosting_98 rfl rfl rfl rfl rfl rfl (Nat.le_of_ble_eq_true rfl) (Nat.le_of_ble_eq_true rfl) (Nat.le_of_ble_eq_true rfl) rfl
theorem eX3_bestPosting_101 : ev X m_X3_bestPosting 101 [a0, a1, a2, a3, a4, a5, vI x, a7] st mem = ev X m_X3_bestPosting 104 [a0, a1, a2, a3, a4, a5, vI (w32 (x + 1)), a7] st mem := ke_iinc rfl (Nat.le_of_ble_eq_true rfl) rfl dX3_bestPosting_101
theorem eX3_bestPosting_104 : ev X m_X3_bestPosting 104 [a0, a1, a2, a3, a4, a5, a6, a7] st mem = ev X m_X3_bestPosting 19 [a0, a1, a2, a3, a4, a5, a6, a7] st mem := ke_goto dX3_bestPosting_104 rfl
theorem eX3_bestPosting_107 : ev X m_X3_bestPosting 107 [a0, a1, a2, vI x, a4, a5, a6, a7] st mem = ev X m_X3_bestPosting 108 [a0, a1, a2, vI x, a4, a5, a6, a7] (vI x :: st) mem := ke_iload_n rfl dX3_bestPosting_107
theorem eX3_bestPosting_108 : ev X m_X3_bestPosting 108 [a0, a1, a2, a3, a4, a5, a6, a7] (vI x :: st) mem = if x = 0 then ev X m_X3_bestPosting 119 [a0, a1, a2, a3, a4, a5, a6, a7] st mem else ev X m_X3_bestPosting 111 [a0, a1, a2, a3, a4, a5, a6, a7] st mem := ke_if_eq dX3_bestPosting_108 rfl
theorem eX3_bestPosting_111 : ev X m_X3_bestPosting 111 [a0, a1, a2, a3, vI x, a5, a6, a7] st mem = ev X m_X3_bestPosting 113 [a0, a1, a2, a3, vI x, a5, a6, a7] (vI x :: st) mem := ke_iload rfl dX3_bestPosting_111
theorem eX3_bestPosting_113 : ev X m_X3_bestPosting 113 [a0, a1, a2, a3, a4, a5, a6, a7] (vI n0 :: []) mem = evc X (ev X m_X4_dayOrNone 0 [vI n0] [] mem) m_X3_bestPosting 116 [a0, a1, a2, a3, a4, a5, a6, a7] [] := ke_callS (m' := m_X4_dayOrNone) (as := [vI n0]) (n := 1) (rest := []) dX3_bestPosting_113 rfl (by decide) rfl rfl rfl rfl rfl (Nat.le_of_ble_eq_true rfl) (Nat.le_of_ble_eq_true rfl) rfl
theorem eX3_bestPosting_116 : ev X m_X3_bestPosting 116 [a0, a1, a2, a3, a4, a5, a6, a7] st mem = ev X m_X3_bestPosting 121 [a0, a1, a2, a3, a4, a5, a6, a7] st mem := ke_goto dX3_bestPosting_116 rfl
theorem eX3_bestPosting_119 : ev X m_X3_bestPosting 119 [a0, a1, a2, a3, a4, vI x, a6, a7] st mem = ev X m_X3_bestPosting 121 [a0, a1, a2, a3, a4, vI x, a6, a7] (vI x :: st) mem := ke_iload rfl dX3_bestPosting_119
theorem eX3_bestPosting_121 : ev X m_X3_bestPosting 121 [a0, a1, a2, a3, a4, a5, a6, a7] [vI x] mem = some (some (vI x), mem) := ke_ireturn dX3_bestPosting_121 rfl
theorem eX4_road_0 : ev X m_X4_road 0 [vR r, a1, a2] st mem = ev X m_X4_road 1 [vR r, a1, a2] (vR r :: st) mem := ke_aload_n rfl dX4_road_0
theorem eX4_road_1 : ev X m_X4_road 1 [a0, a1, a2] (vR r :: st) mem = evb X (fget mem r 4 0) m_X4_road 4 [a0, a1, a2] st mem := ke_getf rfl dX4_road_1
theorem eX4_road_4 : ev X m_X4_road 4 [a0, vI x, a2] st mem = ev X m_X4_road 5 [a0, vI x, a2] (vI x :: st) mem := ke_iload_n rfl dX4_road_4
theorem eX4_road_5 : ev X m_X4_road 5 [a0, a1, vI x] st mem = ev X m_X4_road 6 [a0, a1, vI x] (vI x :: st) mem := ke_iload_n rfl dX4_road_5
theorem eX4_road_6 : ev X m_X4_road 6 [a0, a1, a2] (vI n1 :: vI n0 :: vR r :: []) mem = evc X (gR mem r 0 (ev X m_X0_hasPair 0 [vR r, vI n0, vI n1] [] mem)) m_X4_road 9 [a0, a1, a2] [] := ke_callV (m' := m_X0_hasPair) (as := [vI n0, vI n1]) (n := 2) (rest := []) dX4_road_6 rfl rfl rfl rfl rfl rfl (Nat.le_of_ble_eq_true rfl) (Nat.le_of_ble_eq_true rfl) (Nat.le_of_ble_eq_true rfl) rfl
theorem eX4_road_9 : ev X m_X4_road 9 [a0, a1, a2] (vI x :: st) mem = if x = 0 then ev X m_X4_road 12 [a0, a1, a2] st mem else ev X m_X4_road 18 [a0, a1, a2] st mem := ke_if_ne dX4_road_9 rfl
theorem eX4_road_12 : ev X m_X4_road 12 [vR r, a1, a2] st mem = ev X m_X4_road 13 [vR r, a1, a2] (vR r :: st) mem := ke_aload_n rfl dX4_road_12
theorem eX4_road_13 : ev X m_X4_road 13 [a0, a1, a2] st mem = ev X m_X4_road 14 [a0, a1, a2] (vI (-1) :: st) mem := ke_iconst (by decide) dX4_road_13
theorem eX4_road_14 : ev X m_X4_road 14 [a0, a1, a2] (vI n0 :: vR r :: []) mem = evc X (gR mem r 4 (ev X m_X4_refuse 0 [vR r, vI n0] [] mem)) m_X4_road 17 [a0, a1, a2] [] := ke_callV (m' := m_X4_refuse) (as := [vI n0]) (n := 1) (rest := []) dX4_road_14 rfl rfl rfl rfl rfl rfl (Nat.le_of_ble_eq_true rfl) (Nat.le_of_ble_eq_true rfl) (Nat.le_of_ble_eq_true rfl) rfl
theorem eX4_road_17 : ev X m_X4_road 17 [a0, a1, a2] [vI x] mem = some (some (vI x), mem) := ke_ireturn dX4_road_17 rfl
theorem eX4_road_18 : ev X m_X4_road 18 [vR r, a1, a2] st mem = ev X m_X4_road 19 [vR r, a1, a2] (vR r :: st) mem := ke_aload_n rfl dX4_road_18
theorem eX4_road_19 : ev X m_X4_road 19 [a0, a1, a2] (vR r :: st) mem = evb X (fget mem r 4 0) m_X4_road 22 [a0, a1, a2] st mem := ke_getf rfl dX4_road_19
theorem eX4_road_22 : ev X m_X4_road 22 [a0, vI x, a2] st mem = ev X m_X4_road 23 [a0, vI x, a2] (vI x :: st) mem := ke_iload_n rfl dX4_road_22
theorem eX4_road_23 : ev X m_X4_road 23 [a0, a1, vI x] st mem = ev X m_X4_road 24 [a0, a1, vI x] (vI x :: st) mem := ke_iload_n rfl dX4_road_23
theorem eX4_road_24 : ev X m_X4_road 24 [a0, a1, a2] (vI n1 :: vI n0 :: vR r :: []) mem = evc X (gR mem r 0 (ev X m_X0_apart 0 [vR r, vI n0, vI n1] [] mem)) m_X4_road 27 [a0, a1, a2] [] := ke_callV (m' := m_X0_apart) (as := [vI n0, vI n1]) (n := 2) (rest := []) dX4_road_24 rfl rfl rfl rfl rfl rfl (Nat.le_of_ble_eq_true rfl) (Nat.le_of_ble_eq_true rfl) (Nat.le_of_ble_eq_true rfl) rfl
theorem eX4_road_27 : ev X m_X4_road 27 [a0, a1, a2] [vI x] mem = some (some (vI x), mem) := ke_ireturn dX4_road_27 rfl
theorem eX4_farthest_0 : ev X m_X4_farthest 0 [a0, a1, a2, a3, a4, a5] st mem = ev X m_X4_farthest 1 [a0, a1, a2, a3, a4, a5] (vI (-1) :: st) mem := ke_iconst (by decide) dX4_farthest_0
theorem eX4_farthest_1 : ev X m_X4_farthest 1 [a0, a1, a2, a3, a4, a5] (vI x :: st) mem = ev X m_X4_farthest 2 [a0, vI x, a2, a3, a4, a5] st mem := ke_istore_n (Nat.le_of_ble_eq_true rfl) rfl dX4_farthest_1
theorem eX4_farthest_2 : ev X m_X4_farthest 2 [a0, a1, a2, a3, a4, a5] st mem = ev X m_X4_farthest 4 [a0, a1, a2, a3, a4, a5] (vI (-9) :: st) mem := ke_bipush (by decide) dX4_farthest_2
theorem eX4_farthest_4 : ev X m_X4_farthest 4 [a0, a1, a2, a3, a4, a5] (vI x :: st) mem = ev X m_X4_farthest 5 [a0, a1, vI x, a3, a4, a5] st mem := ke_istore_n (Nat.le_of_ble_eq_true rfl) rfl dX4_farthest_4
theorem eX4_farthest_5 : ev X m_X4_farthest 5 [a0, a1, a2, a3, a4, a5] st mem = ev X m_X4_farthest 6 [a0, a1, a2, a3, a4, a5] (vI 0 :: st) mem := ke_iconst (by decide) dX4_farthest_5
theorem eX4_farthest_6 : ev X m_X4_farthest 6 [a0, a1, a2, a3, a4, a5] (vI x :: st) mem = ev X m_X4_farthest 7 [a0, a1, a2, vI x, a4, a5] st mem := ke_istore_n (Nat.le_of_ble_eq_true rfl) rfl dX4_farthest_6
theorem eX4_farthest_7 : ev X m_X4_farthest 7 [a0, a1, a2, vI x, a4, a5] st mem = ev X m_X4_farthest 8 [a0, a1, a2, vI x, a4, a5] (vI x :: st) mem := ke_iload_n rfl dX4_farthest_7
theorem eX4_farthest_8 : ev X m_X4_farthest 8 [vR r, a1, a2, a3, a4, a5] st mem = ev X m_X4_farthest 9 [vR r, a1, a2, a3, a4, a5] (vR r :: st) mem := ke_aload_n rfl dX4_farthest_8
theorem eX4_farthest_9 : ev X m_X4_farthest 9 [a0, a1, a2, a3, a4, a5] (vR r :: st) mem = evb X (fget mem r 4 0) m_X4_farthest 12 [a0, a1, a2, a3, a4, a5] st mem := ke_getf rfl dX4_farthest_9
theorem eX4_farthest_12 : ev X m_X4_farthest 12 [a0, a1, a2, a3, a4, a5] (vR r :: st) mem = evb X (fget mem r 0 0) m_X4_farthest 15 [a0, a1, a2, a3, a4, a5] st mem := ke_getf rfl dX4_farthest_12
theorem eX4_farthest_15 : ev X m_X4_farthest 15 [a0, a1, a2, a3, a4, a5] (vI y :: vI x :: st) mem = if x < y then ev X m_X4_farthest 18 [a0, a1, a2, a3, a4, a5] st mem else ev X m_X4_farthest 76 [a0, a1, a2, a3, a4, a5] st mem := ke_icmp_ge dX4_farthest_15 rfl
theorem eX4_farthest_18 : ev X m_X4_farthest 18 [a0, a1, a2, vI x, a4, a5] st mem = ev X m_X4_farthest 19 [a0, a1, a2, vI x, a4, a5] (vI x :: st) mem := ke_iload_n rfl dX4_farthest_18
theorem eX4_farthest_19 : ev X m_X4_farthest 19 [a0, a1, a2, a3, a4, a5] st mem = ev X m_X4_farthest 20 [a0, a1, a2, a3, a4, a5] (vI 1 :: st) mem := ke_iconst (by decide) dX4_farthest_19
theorem eX4_farthest_20 : ev X m_X4_farthest 20 [a0, a1, a2, a3, a4, a5] (vI y :: vI x :: st) mem = ev X m_X4_farthest 21 [a0, a1, a2, a3, a4, a5] (vI (w32 (x + y)) :: st) mem := ke_iadd dX4_farthest_20
theorem eX4_farthest_21 : ev X m_X4_farthest 21 [a0, a1, a2, a3, a4, a5] (vI x :: st) mem = ev X m_X4_farthest 23 [a0, a1, a2, a3, vI x, a5] st mem := ke_istore (Nat.le_of_ble_eq_true rfl) rfl dX4_farthest_21
theorem eX4_farthest_23 : ev X m_X4_farthest 23 [a0, a1, a2, a3, vI x, a5] st mem = ev X m_X4_farthest 25 [a0, a1, a2, a3, vI x, a5] (vI x :: st) mem := ke_iload rfl dX4_farthest_23
theorem eX4_farthest_25 : ev X m_X4_farthest 25 [vR r, a1, a2, a3, a4, a5] st mem = ev X m_X4_farthest 26 [vR r, a1, a2, a3, a4, a5] (vR r :: st) mem := ke_aload_n rfl dX4_farthest_25
theorem eX4_farthest_26 : ev X m_X4_farthest 26 [a0, a1, a2, a3, a4, a5] (vR r :: st) mem = evb X (fget mem r 4 0) m_X4_farthest 29 [a0, a1, a2, a3, a4, a5] st mem := ke_getf rfl dX4_farthest_26
theorem eX4_farthest_29 : ev X m_X4_farthest 29 [a0, a1, a2, a3, a4, a5] (vR r :: st) mem = evb X (fget mem r 0 0) m_X4_farthest 32 [a0, a1, a2, a3, a4, a5] st mem := ke_getf rfl dX4_farthest_29
theorem eX4_farthest_32 : ev X m_X4_farthest 32 [a0, a1, a2, a3, a4, a5] (vI y :: vI x :: st) mem = if x < y then ev X m_X4_farthest 35 [a0, a1, a2, a3, a4, a5] st mem else ev X m_X4_farthest 70 [a0, a1, a2, a3, a4, a5] st mem := ke_icmp_ge dX4_farthest_32 rfl
theorem eX4_farthest_35 : ev X m_X4_farthest 35 [vR r, a1, a2, a3, a4, a5] st mem = ev X m_X4_farthest 36 [vR r, a1, a2, a3, a4, a5] (vR r :: st) mem := ke_aload_n rfl dX4_farthest_35
theorem eX4_farthest_36 : ev X m_X4_farthest 36 [a0, a1, a2, a3, a4, a5] (vR r :: st) mem = evb X (fget mem r 4 0) m_X4_farthest 39 [a0, a1, a2, a3, a4, a5] st mem := ke_getf rfl dX4_farthest_36
theorem eX4_farthest_39 : ev X m_X4_farthest 39 [a0, a1, a2, vI x, a4, a5] st mem = ev X m_X4_farthest 40 [a0, a1, a2, vI x, a4, a5] (vI x :: st) mem := ke_iload_n rfl dX4_farthest_39
theorem eX4_farthest_40 : ev X m_X4_farthest 40 [a0, a1, a2, a3, vI x, a5] st mem = ev X m_X4_farthest 42 [a0, a1, a2, a3, vI x, a5] (vI x :: st) mem := ke_iload rfl dX4_farthest_40
theorem eX4_farthest_42 : ev X m_X4_farthest 42 [a0, a1, a2, a3, a4, a5] (vI n1 :: vI n0 :: vR r :: []) mem = evc X (gR mem r 0 (ev X m_X0_apart 0 [vR r, vI n0, vI n1] [] mem)) m_X4_farthest 45 [a0, a1, a2, a3, a4, a5] [] := ke_callV (m' := m_X0_apart) (as := [vI n0, vI n1]) (n := 2) (rest := []) dX4_farthest_42 rfl rfl rfl rfl rfl rfl (Nat.le_of_ble_eq_true rfl) (Nat.le_of_ble_eq_true rfl) (Nat.le_of_ble_eq_true rfl) rfl
theorem eX4_farthest_45 : ev X m_X4_farthest 45 [a0, a1, a2, a3, a4, a5] (vI x :: st) mem = ev X m_X4_farthest 47 [a0, a1, a2, a3, a4, vI x] st mem := ke_istore (Nat.le_of_ble_eq_true rfl) rfl dX4_farthest_45
theorem eX4_farthest_47 : ev X m_X4_farthest 47 [a0, a1, a2, a3, a4, vI x] st mem = ev X m_X4_farthest 49 [a0, a1, a2, a3, a4, vI x] (vI x :: st) mem := ke_iload rfl dX4_farthest_47
theorem eX4_farthest_49 : ev X m_X4_farthest 49 [a0, vI x, a2, a3, a4, a5] st mem = ev X m_X4_farthest 50 [a0, vI x, a2, a3, a4, a5] (vI x :: st) mem := ke_iload_n rfl dX4_farthest_49
theorem eX4_farthest_50 : ev X m_X4_farthest 50 [a0, a1, a2, a3, a4, a5] (vI y :: vI x :: st) mem = if y < x then ev X m_X4_farthest 53 [a0, a1, a2, a3, a4, a5] st mem else ev X m_X4_farthest 64 [a0, a1, a2, a3, a4, a5] st mem := ke_icmp_le dX4_farthest_50 rfl
theorem eX4_farthest_53 : ev X m_X4_farthest 53 [a0, a1, a2, a3, a4, vI x] st mem = ev X m_X4_farthest 55 [a0, a1, a2, a3, a4, vI x] (vI x :: st) mem := ke_iload rfl dX4_farthest_53
theorem eX4_farthest_55 : ev X m_X4_farthest 55 [a0, a1, a2, a3, a4, a5] (vI x :: st) mem = ev X m_X4_farthest 56 [a0, vI x, a2, a3, a4, a5] st mem := ke_istore_n (Nat.le_of_ble_eq_true rfl) rfl dX4_farthest_55
theorem eX4_farthest_56 : ev X m_X4_farthest 56 [a0, a1, a2, a3, a4, a5] st mem = ev X m_X4_farthest 58 [a0, a1, a2, a3, a4, a5] (vI 10 :: st) mem := ke_bipush (by decide) dX4_farthest_56
theorem eX4_farthest_58 : ev X m_X4_farthest 58 [a0, a1, a2, vI x, a4, a5] st mem = ev X m_X4_farthest 59 [a0, a1, a2, vI x, a4, a5] (vI x :: st) mem := ke_iload_n rfl dX4_farthest_58
theorem eX4_farthest_59 : ev X m_X4_farthest 59 [a0, a1, a2, a3, a4, a5] (vI y :: vI x :: st) mem = ev X m_X4_farthest 60 [a0, a1, a2, a3, a4, a5] (vI (w32 (x * y)) :: st) mem := ke_imul dX4_farthest_59
theorem eX4_farthest_60 : ev X m_X4_farthest 60 [a0, a1, a2, a3, vI x, a5] st mem = ev X m_X4_farthest 62 [a0, a1, a2, a3, vI x, a5] (vI x :: st) mem := ke_iload rfl dX4_farthest_60
theorem eX4_farthest_62 : ev X m_X4_farthest 62 [a0, a1, a2, a3, a4, a5] (vI y :: vI x :: st) mem = ev X m_X4_farthest 63 [a0, a1, a2, a3, a4, a5] (vI (w32 (x + y)) :: st) mem := ke_iadd dX4_farthest_62
theorem eX4_farthest_63 : ev X m_X4_farthest 63 [a0, a1, a2, a3, a4, a5] (vI x :: st) mem = ev X m_X4_farthest 64 [a0, a1, vI x, a3, a4, a5] st mem := ke_istore_n (Nat.le_of_ble_eq_true rfl) rfl dX4_farthest_63
theorem eX4_farthest_64 : ev X m_X4_farthest 64 [a0, a1, a2, a3, vI x, a5] st mem = ev X m_X4_farthest 67 [a0, a1, a2, a3, vI (w32 (x + 1)), a5] st mem := ke_iinc rfl (Nat.le_of_ble_eq_true rfl) rfl dX4_farthest_64
theorem eX4_farthest_67 : ev X m_X4_farthest 67 [a0, a1, a2, a3, a4, a5] st mem = ev X m_X4_farthest 23 [a0, a1, a2, a3, a4, a5] st mem := ke_goto dX4_farthest_67 rfl
theorem eX4_farthest_70 : ev X m_X4_farthest 70 [a0, a1, a2, vI x, a4, a5] st mem = ev X m_X4_farthest 73 [a0, a1, a2, vI (w32 (x + 1)), a4, a5] st mem := ke_iinc rfl (Nat.le_of_ble_eq_true rfl) rfl dX4_farthest_70
theorem eX4_farthest_73 : ev X m_X4_farthest 73 [a0, a1, a2, a3, a4, a5] st mem = ev X m_X4_farthest 7 [a0, a1, a2, a3, a4, a5] st mem := ke_goto dX4_farthest_73 rfl
theorem eX4_farthest_76 : ev X m_X4_farthest 76 [a0, a1, vI x, a3, a4, a5] st mem = ev X m_X4_farthest 77 [a0, a1, vI x, a3, a4, a5] (vI x :: st) mem := ke_iload_n rfl dX4_farthest_76
theorem eX4_farthest_77 : ev X m_X4_farthest 77 [a0, a1, a2, a3, a4, a5] [vI x] mem = some (some (vI x), mem) := ke_ireturn dX4_farthest_77 rfl
theorem eX4_fair_0 : ev X m_X4_fair 0 [a0, vI x, a2, a3, a4, a5] st mem = ev X m_X4_fair 1 [a0, vI x, a2, a3, a4, a5] (vI x :: st) mem := ke_iload_n rfl dX4_fair_0
theorem eX4_fair_1 : ev X m_X4_fair 1 [a0, a1, a2, a3, a4, a5] (vI x :: st) mem = if x < 0 then ev X m_X4_fair 9 [a0, a1, a2, a3, a4, a5] st mem else ev X m_X4_fair 4 [a0, a1, a2, a3, a4, a5] st mem := ke_if_lt dX4_fair_1 rfl
theorem eX4_fair_4 : ev X m_X4_fair 4 [a0, vI x, a2, a3, a4, a5] st mem = ev X m_X4_fair 5 [a0, vI x, a2, a3, a4, a5] (vI x :: st) mem := ke_iload_n rfl dX4_fair_4
theorem eX4_fair_5 : ev X m_X4_fair 5 [a0, a1, a2, a3, a4, a5] st mem = ev X m_X4_fair 6 [a0, a1, a2, a3, a4, a5] (vI 2 :: st) mem := ke_iconst (by decide) dX4_fair_5
theorem eX4_fair_6 : ev X m_X4_fair 6 [a0, a1, a2, a3, a4, a5] (vI y :: vI x :: st) mem = if y < x then ev X m_X4_fair 9 [a0, a1, a2, a3, a4, a5] st mem else ev X m_X4_fair 16 [a0, a1, a2, a3, a4, a5] st mem := ke_icmp_le dX4_fair_6 rfl
theorem eX4_fair_9 : ev X m_X4_fair 9 [vR r, a1, a2, a3, a4, a5] st mem = ev X m_X4_fair 10 [vR r, a1, a2, a3, a4, a5] (vR r :: st) mem := ke_aload_n rfl dX4_fair_9
theorem eX4_fair_10 : ev X m_X4_fair 10 [a0, a1, a2, a3, a4, a5] st mem = ev X m_X4_fair 12 [a0, a1, a2, a3, a4, a5] (vI (-2) :: st) mem := ke_bipush (by decide) dX4_fair_10
theorem eX4_fair_12 : ev X m_X4_fair 12 [a0, a1, a2, a3, a4, a5] (vI n0 :: vR r :: []) mem = evc X (gR mem r 4 (ev X m_X4_refuse 0 [vR r, vI n0] [] mem)) m_X4_fair 15 [a0, a1, a2, a3, a4, a5] [] := ke_callV (m' := m_X4_refuse) (as := [vI n0]) (n := 1) (rest := []) dX4_fair_12 rfl rfl rfl rfl rfl rfl (Nat.le_of_ble_eq_true rfl) (Nat.le_of_ble_eq_true rfl) (Nat.le_of_ble_eq_true rfl) rfl
theorem eX4_fair_15 : ev X m_X4_fair 15 [a0, a1, a2, a3, a4, a5] [vI x] mem = some (some (vI x), mem) := ke_ireturn dX4_fair_15 rfl
theorem eX4_fair_16 : ev X m_X4_fair 16 [a0, vI x, a2, a3, a4, a5] st mem = ev X m_X4_fair 17 [a0, vI x, a2, a3, a4, a5] (vI x :: st) mem := ke_iload_n rfl dX4_fair_16
theorem eX4_fair_17 : ev X m_X4_fair 17 [a0, a1, a2, a3, a4, a5] st mem = ev X m_X4_fair 18 [a0, a1, a2, a3, a4, a5] (vI 2 :: st) mem := ke_iconst (by decide) dX4_fair_17
theorem eX4_fair_18 : ev X m_X4_fair 18 [a0, a1, a2, a3, a4, a5] (vI y :: vI x :: st) mem = if x = y then ev X m_X4_fair 21 [a0, a1, a2, a3, a4, a5] st mem else ev X m_X4_fair 29 [a0, a1, a2, a3, a4, a5] st mem := ke_icmp_ne dX4_fair_18 rfl
theorem eX4_fair_21 : ev X m_X4_fair 21 [vR r, a1, a2, a3, a4, a5] st mem = ev X m_X4_fair 22 [vR r, a1, a2, a3, a4, a5] (vR r :: st) mem := ke_aload_n rfl dX4_fair_21
theorem eX4_fair_22 : ev X m_X4_fair 22 [a0, a1, a2, a3, a4, a5] (vR r :: st) mem = evb X (fget mem r 4 0) m_X4_fair 25 [a0, a1, a2, a3, a4, a5] st mem := ke_getf rfl dX4_fair_22
theorem eX4_fair_25 : ev X m_X4_fair 25 [a0, a1, a2, a3, a4, a5] (vR r :: []) mem = evc X (gR mem r 0 (ev X m_X0_mutualEnemies 0 [vR r, vS, vS, vS] [] mem)) m_X4_fair 28 [a0, a1, a2, a3, a4, a5] [] := ke_callV (m' := m_X0_mutualEnemies) (as := []) (n := 0) (rest := []) dX4_fair_25 rfl rfl rfl rfl rfl rfl (Nat.le_of_ble_eq_true rfl) (Nat.le_of_ble_eq_true rfl) (Nat.le_of_ble_eq_true rfl) rfl
theorem eX4_fair_28 : ev X m_X4_fair 28 [a0, a1, a2, a3, a4, a5] [vI x] mem = some (some (vI x), mem) := ke_ireturn dX4_fair_28 rfl
theorem eX4_fair_29 : ev X m_X4_fair 29 [a0, a1, a2, a3, a4, a5] st mem = ev X m_X4_fair 31 [a0, a1, a2, a3, a4, a5] (vI (-9) :: st) mem := ke_bipush (by decide) dX4_fair_29
theorem eX4_fair_31 : ev X m_X4_fair 31 [a0, a1, a2, a3, a4, a5] (vI x :: st) mem = ev X m_X4_fair 32 [a0, a1, vI x, a3, a4, a5] st mem := ke_istore_n (Nat.le_of_ble_eq_true rfl) rfl dX4_fair_31
theorem eX4_fair_32 : ev X m_X4_fair 32 [a0, a1, a2, a3, a4, a5] st mem = ev X m_X4_fair 34 [a0, a1, a2, a3, a4, a5] (vI (-9) :: st) mem := ke_bipush (by decide) dX4_fair_32
theorem eX4_fair_34 : ev X m_X4_fair 34 [a0, a1, a2, a3, a4, a5] (vI x :: st) mem = ev X m_X4_fair 35 [a0, a1, a2, vI x, a4, a5] st mem := ke_istore_n (Nat.le_of_ble_eq_true rfl) rfl dX4_fair_34
theorem eX4_fair_35 : ev X m_X4_fair 35 [a0, a1, a2, a3, a4, a5] st mem = ev X m_X4_fair 36 [a0, a1, a2, a3, a4, a5] (vI 0 :: st) mem := ke_iconst (by decide) dX4_fair_35
theorem eX4_fair_36 : ev X m_X4_fair 36 [a0, a1, a2, a3, a4, a5] (vI x :: st) mem = ev X m_X4_fair 38 [a0, a1, a2, a3, vI x, a5] st mem := ke_istore (Nat.le_of_ble_eq_true rfl) rfl dX4_fair_36
theorem eX4_fair_38 : ev X m_X4_fair 38 [a0, a1, a2, a3, vI x, a5] st mem = ev X m_X4_fair 40 [a0, a1, a2, a3, vI x, a5] (vI x :: st) mem := ke_iload rfl dX4_fair_38
theorem eX4_fair_40 : ev X m_X4_fair 40 [vR r, a1, a2, a3, a4, a5] st mem = ev X m_X4_fair 41 [vR r, a1, a2, a3, a4, a5] (vR r :: st) mem := ke_aload_n rfl dX4_fair_40
theorem eX4_fair_41 : ev X m_X4_fair 41 [a0, a1, a2, a3, a4, a5] (vR r :: st) mem = evb X (fget mem r 4 0) m_X4_fair 44 [a0, a1, a2, a3, a4, a5] st mem := ke_getf rfl dX4_fair_41
theorem eX4_fair_44 : ev X m_X4_fair 44 [a0, a1, a2, a3, a4, a5] (vR r :: st) mem = evb X (fget mem r 0 0) m_X4_fair 47 [a0, a1, a2, a3, a4, a5] st mem := ke_getf rfl dX4_fair_44
theorem eX4_fair_47 : ev X m_X4_fair 47 [a0, a1, a2, a3, a4, a5] (vI y :: vI x :: st) mem = if x < y then ev X m_X4_fair 50 [a0, a1, a2, a3, a4, a5] st mem else ev X m_X4_fair 79 [a0, a1, a2, a3, a4, a5] st mem := ke_icmp_ge dX4_fair_47 rfl
theorem eX4_fair_50 : ev X m_X4_fair 50 [vR r, a1, a2, a3, a4, a5] st mem = ev X m_X4_fair 51 [vR r, a1, a2, a3, a4, a5] (vR r :: st) mem := ke_aload_n rfl dX4_fair_50
theorem eX4_fair_51 : ev X m_X4_fair 51 [a0, a1, a2, a3, a4, a5] (vR r :: st) mem = evb X (fget mem r 4 0) m_X4_fair 54 [a0, a1, a2, a3, a4, a5] st mem := ke_getf rfl dX4_fair_51
theorem eX4_fair_54 : ev X m_X4_fair 54 [a0, a1, a2, a3, vI x, a5] st mem = ev X m_X4_fair 56 [a0, a1, a2, a3, vI x, a5] (vI x :: st) mem := ke_iload rfl dX4_fair_54
theorem eX4_fair_56 : ev X m_X4_fair 56 [a0, a1, a2, a3, a4, a5] (vI n0 :: vR r :: []) mem = evc X (gR mem r 0 (ev X m_X0_maliceOfAll 0 [vR r, vI n0, vS, vS] [] mem)) m_X4_fair 59 [a0, a1, a2, a3, a4, a5] [] := ke_callV (m' := m_X0_maliceOfAll) (as := [vI n0]) (n := 1) (rest := []) dX4_fair_56 rfl rfl rfl rfl rfl rfl (Nat.le_of_ble_eq_true rfl) (Nat.le_of_ble_eq_true rfl) (Nat.le_of_ble_eq_true rfl) rfl
theorem eX4_fair_59 : ev X m_X4_fair 59 [a0, a1, a2, a3, a4, a5] (vI x :: st) mem = ev X m_X4_fair 61 [a0, a1, a2, a3, a4, vI x] st mem := ke_istore (Nat.le_of_ble_eq_true rfl) rfl dX4_fair_59
theorem eX4_fair_61 : ev X m_X4_fair 61 [a0, a1, a2, a3, a4, vI x] st mem = ev X m_X4_fair 63 [a0, a1, a2, a3, a4, vI x] (vI x :: st) mem := ke_iload rfl dX4_fair_61
theorem eX4_fair_63 : ev X m_X4_fair 63 [a0, a1, a2, vI x, a4, a5] st mem = ev X m_X4_fair 64 [a0, a1, a2, vI x, a4, a5] (vI x :: st) mem := ke_iload_n rfl dX4_fair_63
theorem eX4_fair_64 : ev X m_X4_fair 64 [a0, a1, a2, a3, a4, a5] (vI y :: vI x :: st) mem = if y < x then ev X m_X4_fair 67 [a0, a1, a2, a3, a4, a5] st mem else ev X m_X4_fair 73 [a0, a1, a2, a3, a4, a5] st mem := ke_icmp_le dX4_fair_64 rfl
theorem eX4_fair_67 : ev X m_X4_fair 67 [a0, a1, a2, a3, a4, vI x] st mem = ev X m_X4_fair 69 [a0, a1, a2, a3, a4, vI x] (vI x :: st) mem := ke_iload rfl dX4_fair_67
theorem eX4_fair_69 : ev X m_X4_fair 69 [a0, a1, a2, a3, a4, a5] (vI x :: st) mem = ev X m_X4_fair 70 [a0, a1, a2, vI x, a4, a5] st mem := ke_istore_n (Nat.le_of_ble_eq_true rfl) rfl dX4_fair_69
theorem eX4_fair_70 : ev X m_X4_fair 70 [a0, a1, a2, a3, vI x, a5] st mem = ev X m_X4_fair 72 [a0, a1, a2, a3, vI x, a5] (vI x :: st) mem := ke_iload rfl dX4_fair_70
theorem eX4_fair_72 : ev X m_X4_fair 72 [a0, a1, a2, a3, a4, a5] (vI x :: st) mem = ev X m_X4_fair 73 [a0, a1, vI x, a3, a4, a5] st mem := ke_istore_n (Nat.le_of_ble_eq_true rfl) rfl dX4_fair_72
theorem eX4_fair_73 : ev X m_X4_fair 73 [a0, a1, a2, a3, vI x, a5] st mem = ev X m_X4_fair 76 [a0, a1, a2, a3, vI (w32 (x + 1)), a5] st mem := ke_iinc rfl (Nat.le_of_ble_eq_true rfl) rfl dX4_fair_73
theorem eX4_fair_76 : ev X m_X4_fair 76 [a0, a1, a2, a3, a4, a5] st mem = ev X m_X4_fair 38 [a0, a1, a2, a3, a4, a5] st mem := ke_goto dX4_fair_76 rfl
theorem eX4_fair_79 : ev X m_X4_fair 79 [a0, vI x, a2, a3, a4, a5] st mem = ev X m_X4_fair 80 [a0, vI x, a2, a3, a4, a5] (vI x :: st) mem := ke_iload_n rfl dX4_fair_79
theorem eX4_fair_80 : ev X m_X4_fair 80 [a0, a1, a2, a3, a4, a5] (vI x :: st) mem = if x = 0 then ev X m_X4_fair 83 [a0, a1, a2, a3, a4, a5] st mem else ev X m_X4_fair 87 [a0, a1, a2, a3, a4, a5] st mem := ke_if_ne dX4_fair_80 rfl
theorem eX4_fair_83 : ev X m_X4_fair 83 [a0, a1, vI x, a3, a4, a5] st mem = ev X m_X4_fair 84 [a0, a1, vI x, a3, a4, a5] (vI x :: st) mem := ke_iload_n rfl dX4_fair_83
theorem eX4_fair_84 : ev X m_X4_fair 84 [a0, a1, a2, a3, a4, a5] st mem = ev X m_X4_fair 88 [a0, a1, a2, a3, a4, a5] st mem := ke_goto dX4_fair_84 rfl
theorem eX4_fair_87 : ev X m_X4_fair 87 [a0, a1, a2, vI x, a4, a5] st mem = ev X m_X4_fair 88 [a0, a1, a2, vI x, a4, a5] (vI x :: st) mem := ke_iload_n rfl dX4_fair_87
theorem eX4_fair_88 : ev X m_X4_fair 88 [a0, a1, a2, a3, a4, a5] [vI x] mem = some (some (vI x), mem) := ke_ireturn dX4_fair_88 rfl
theorem eX0_mutualEnemies_0 : ev X m_X0_mutualEnemies 0 [a0, a1, a2, a3] st mem = ev X m_X0_mutualEnemies 1 [a0, a1, a2, a3] (vI 0 :: st) mem := ke_iconst (by decide) dX0_mutualEnemies_0
theorem eX0_mutualEnemies_1 : ev X m_X0_mutualEnemies 1 [a0, a1, a2, a3] (vI x :: st) mem = ev X m_X0_mutualEnemies 2 [a0, vI x, a2, a3] st mem := ke_istore_n (Nat.le_of_ble_eq_true rfl) rfl dX0_mutualEnemies_1
theorem eX0_mutualEnemies_2 : ev X m_X0_mutualEnemies 2 [a0, a1, a2, a3] st mem = ev X m_X0_mutualEnemies 3 [a0, a1, a2, a3] (vI 0 :: st) mem := ke_iconst (by decide) dX0_mutualEnemies_2
theorem eX0_mutualEnemies_3 : ev X m_X0_mutualEnemies 3 [a0, a1, a2, a3] (vI x :: st) mem = ev X m_X0_mutualEnemies 4 [a0, a1, vI x, a3] st mem := ke_istore_n (Nat.le_of_ble_eq_true rfl) rfl dX0_mutualEnemies_3
theorem eX0_mutualEnemies_4 : ev X m_X0_mutualEnemies 4 [a0, a1, vI x, a3] st mem = ev X m_X0_mutualEnemies 5 [a0, a1, vI x, a3] (vI x :: st) mem := ke_iload_n rfl dX0_mutualEnemies_4
theorem eX0_mutualEnemies_5 : ev X m_X0_mutualEnemies 5 [vR r, a1, a2, a3] st mem = ev X m_X0_mutualEnemies 6 [vR r, a1, a2, a3] (vR r :: st) mem := ke_aload_n rfl dX0_mutualEnemies_5
theorem eX0_mutualEnemies_6 : ev X m_X0_mutualEnemies 6 [a0, a1, a2, a3] (vR r :: st) mem = evb X (fget mem r 0 0) m_X0_mutualEnemies 9 [a0, a1, a2, a3] st mem := ke_getf rfl dX0_mutualEnemies_6
theorem eX0_mutualEnemies_9 : ev X m_X0_mutualEnemies 9 [a0, a1, a2, a3] (vI y :: vI x :: st) mem = if x < y then ev X m_X0_mutualEnemies 12 [a0, a1, a2, a3] st mem else ev X m_X0_mutualEnemies 45 [a0, a1, a2, a3] st mem := ke_icmp_ge dX0_mutualEnemies_9 rfl
theorem eX0_mutualEnemies_12 : ev X m_X0_mutualEnemies 12 [vR r, a1, a2, a3] st mem = ev X m_X0_mutualEnemies 13 [vR r, a1, a2, a3] (vR r :: st) mem := ke_aload_n rfl dX0_mutualEnemies_12
theorem eX0_mutualEnemies_13 : ev X m_X0_mutualEnemies 13 [a0, a1, vI x, a3] st mem = ev X m_X0_mutualEnemies 14 [a0, a1, vI x, a3] (vI x :: st) mem := ke_iload_n rfl dX0_mutualEnemies_13
theorem eX0_mutualEnemies_14 : ev X m_X0_mutualEnemies 14 [a0, a1, a2, a3] st mem = ev X m_X0_mutualEnemies 16 [a0, a1, a2, a3] (vI (-9) :: st) mem := ke_bipush (by decide) dX0_mutualEnemies_14
theorem eX0_mutualEnemies_16 : ev X m_X0_mutualEnemies 16 [a0, a1, a2, a3] (vI n1 :: vI n0 :: vR r :: []) mem = evc X (gR mem r 0 (ev X m_X0_enemyOf 0 [vR r, vI n0, vI n1, vS, vS, vS, vS] [] mem)) m_X0_mutualEnemies 19 [a0, a1, a2, a3] [] := ke_callV (m' := m_X0_enemyOf) (as := [vI n0, vI n1]) (n := 2) (rest := []) dX0_mutualEnemies_16 rfl rfl rfl rfl rfl rfl (Nat.le_of_ble_eq_true rfl) (Nat.le_of_ble_eq_true rfl) (Nat.le_of_ble_eq_true rfl) rfl
theorem eX0_mutualEnemies_19 : ev X m_X0_mutualEnemies 19 [a0, a1, a2, a3] (vI x :: st) mem = ev X m_X0_mutualEnemies 20 [a0, a1, a2, vI x] st mem := ke_istore_n (Nat.le_of_ble_eq_true rfl) rfl dX0_mutualEnemies_19
theorem eX0_mutualEnemies_20 : ev X m_X0_mutualEnemies 20 [a0, a1, a2, vI x] st mem = ev X m_X0_mutualEnemies 21 [a0, a1, a2, vI x] (vI x :: st) mem := ke_iload_n rfl dX0_mutualEnemies_20
theorem eX0_mutualEnemies_21 : ev X m_X0_mutualEnemies 21 [a0, a1, vI x, a3] st mem = ev X m_X0_mutualEnemies 22 [a0, a1, vI x, a3] (vI x :: st) mem := ke_iload_n rfl dX0_mutualEnemies_21
theorem eX0_mutualEnemies_22 : ev X m_X0_mutualEnemies 22 [a0, a1, a2, a3] (vI y :: vI x :: st) mem = if y < x then ev X m_X0_mutualEnemies 25 [a0, a1, a2, a3] st mem else ev X m_X0_mutualEnemies 39 [a0, a1, a2, a3] st mem := ke_icmp_le dX0_mutualEnemies_22 rfl
theorem eX0_mutualEnemies_25 : ev X m_X0_mutualEnemies 25 [vR r, a1, a2, a3] st mem = ev X m_X0_mutualEnemies 26 [vR r, a1, a2, a3] (vR r :: st) mem := ke_aload_n rfl dX0_mutualEnemies_25
theorem eX0_mutualEnemies_26 : ev X m_X0_mutualEnemies 26 [a0, a1, a2, vI x] st mem = ev X m_X0_mutualEnemies 27 [a0, a1, a2, vI x] (vI x :: st) mem := ke_iload_n rfl dX0_mutualEnemies_26
theorem eX0_mutualEnemies_27 : ev X m_X0_mutualEnemies 27 [a0, a1, a2, a3] st mem = ev X m_X0_mutualEnemies 29 [a0, a1, a2, a3] (vI (-9) :: st) mem := ke_bipush (by decide) dX0_mutualEnemies_27
theorem eX0_mutualEnemies_29 : ev X m_X0_mutualEnemies 29 [a0, a1, a2, a3] (vI n1 :: vI n0 :: vR r :: []) mem = evc X (gR mem r 0 (ev X m_X0_enemyOf 0 [vR r, vI n0, vI n1, vS, vS, vS, vS] [] mem)) m_X0_mutualEnemies 32 [a0, a1, a2, a3] [] := ke_callV (m' := m_X0_enemyOf) (as := [vI n0, vI n1]) (n := 2) (rest := []) dX0_mutualEnemies_29 rfl rfl rfl rfl rfl rfl (Nat.le_of_ble_eq_true rfl) (Nat.le_of_ble_eq_true rfl) (Nat.le_of_ble_eq_true rfl) rfl
theorem eX0_mutualEnemies_32 : ev X m_X0_mutualEnemies 32 [a0, a1, vI x, a3] st mem = ev X m_X0_mutualEnemies 33 [a0, a1, vI x, a3] (vI x :: st) mem := ke_iload_n rfl dX0_mutualEnemies_32
theorem eX0_mutualEnemies_33 : ev X m_X0_mutualEnemies 33 [a0, a1, a2, a3] (vI y :: vI x :: st) mem = if x = y then ev X m_X0_mutualEnemies 36 [a0, a1, a2, a3] st mem else ev X m_X0_mutualEnemies 39 [a0, a1, a2, a3] st mem := ke_icmp_ne dX0_mutualEnemies_33 rfl
theorem eX0_mutualEnemies_36 : ev X m_X0_mutualEnemies 36 [a0, vI x, a2, a3] st mem = ev X m_X0_mutualEnemies 39 [a0, vI (w32 (x + 1)), a2, a3] st mem := ke_iinc rfl (Nat.le_of_ble_eq_true rfl) rfl dX0_mutualEnemies_36
theorem eX0_mutualEnemies_39 : ev X m_X0_mutualEnemies 39 [a0, a1, vI x, a3] st mem = ev X m_X0_mutualEnemies 42 [a0, a1, vI (w32 (x + 1)), a3] st mem := ke_iinc rfl (Nat.le_of_ble_eq_true rfl) rfl dX0_mutualEnemies_39
theorem eX0_mutualEnemies_42 : ev X m_X0_mutualEnemies 42 [a0, a1, a2, a3] st mem = ev X m_X0_mutualEnemies 4 [a0, a1, a2, a3] st mem := ke_goto dX0_mutualEnemies_42 rfl
theorem eX0_mutualEnemies_45 : ev X m_X0_mutualEnemies 45 [a0, vI x, a2, a3] st mem = ev X m_X0_mutualEnemies 46 [a0, vI x, a2, a3] (vI x :: st) mem := ke_iload_n rfl dX0_mutualEnemies_45
theorem eX0_mutualEnemies_46 : ev X m_X0_mutualEnemies 46 [a0, a1, a2, a3] [vI x] mem = some (some (vI x), mem) := ke_ireturn dX0_mutualEnemies_46 rfl
theorem eX0_maliceOfAll_0 : ev X m_X0_maliceOfAll 0 [a0, a1, a2, a3] st mem = ev X m_X0_maliceOfAll 1 [a0, a1, a2, a3] (vI 0 :: st) mem := ke_iconst (by decide) dX0_maliceOfAll_0
theorem eX0_maliceOfAll_1 : ev X m_X0_maliceOfAll 1 [a0, a1, a2, a3] (vI x :: st) mem = ev X m_X0_maliceOfAll 2 [a0, a1, vI x, a3] st mem := ke_istore_n (Nat.le_of_ble_eq_true rfl) rfl dX0_maliceOfAll_1
theorem eX0_maliceOfAll_2 : ev X m_X0_maliceOfAll 2 [a0, a1, a2, a3] st mem = ev X m_X0_maliceOfAll 3 [a0, a1, a2, a3] (vI 0 :: st) mem := ke_iconst (by decide) dX0_maliceOfAll_2
theorem eX0_maliceOfAll_3 : ev X m_X0_maliceOfAll 3 [a0, a1, a2, a3] (vI x :: st) mem = ev X m_X0_maliceOfAll 4 [a0, a1, a2, vI x] st mem := ke_istore_n (Nat.le_of_ble_eq_true rfl) rfl dX0_maliceOfAll_3
theorem eX0_maliceOfAll_4 : ev X m_X0_maliceOfAll 4 [a0, a1, a2, vI x] st mem = ev X m_X0_maliceOfAll 5 [a0, a1, a2, vI x] (vI x :: st) mem := ke_iload_n rfl dX0_maliceOfAll_4
theorem eX0_maliceOfAll_5 : ev X m_X0_maliceOfAll 5 [vR r, a1, a2, a3] st mem = ev X m_X0_maliceOfAll 6 [vR r, a1, a2, a3] (vR r :: st) mem := ke_aload_n rfl dX0_maliceOfAll_5
theorem eX0_maliceOfAll_6 : ev X m_X0_maliceOfAll 6 [a0, a1, a2, a3] (vR r :: st) mem = evb X (fget mem r 0 0) m_X0_maliceOfAll 9 [a0, a1, a2, a3] st mem := ke_getf rfl dX0_maliceOfAll_6
theorem eX0_maliceOfAll_9 : ev X m_X0_maliceOfAll 9 [a0, a1, a2, a3] (vI y :: vI x :: st) mem = if x < y then ev X m_X0_maliceOfAll 12 [a0, a1, a2, a3] st mem else ev X m_X0_maliceOfAll 27 [a0, a1, a2, a3] st mem := ke_icmp_ge dX0_maliceOfAll_9 rfl
theorem eX0_maliceOfAll_12 : ev X m_X0_maliceOfAll 12 [a0, a1, vI x, a3] st mem = ev X m_X0_maliceOfAll 13 [a0, a1, vI x, a3] (vI x :: st) mem := ke_iload_n rfl dX0_maliceOfAll_12
theorem eX0_maliceOfAll_13 : ev X m_X0_maliceOfAll 13 [vR r, a1, a2, a3] st mem = ev X m_X0_maliceOfAll 14 [vR r, a1, a2, a3] (vR r :: st) mem := ke_aload_n rfl dX0_maliceOfAll_13
theorem eX0_maliceOfAll_14 : ev X m_X0_maliceOfAll 14 [a0, a1, a2, vI x] st mem = ev X m_X0_maliceOfAll 15 [a0, a1, a2, vI x] (vI x :: st) mem := ke_iload_n rfl dX0_maliceOfAll_14
theorem eX0_maliceOfAll_15 : ev X m_X0_maliceOfAll 15 [a0, vI x, a2, a3] st mem = ev X m_X0_maliceOfAll 16 [a0, vI x, a2, a3] (vI x :: st) mem := ke_iload_n rfl dX0_maliceOfAll_15
theorem eX0_maliceOfAll_16 : ev X m_X0_maliceOfAll 16 [a0, a1, a2, a3] (vI n1 :: vI n0 :: vR r :: [s0]) mem = evc X (gR mem r 0 (ev X m_X0_maliceOf 0 [vR r, vI n0, vI n1, vS, vS, vS, vS] [] mem)) m_X0_maliceOfAll 19 [a0, a1, a2, a3] [s0] := ke_callV (m' := m_X0_maliceOf) (as := [vI n0, vI n1]) (n := 2) (rest := [s0]) dX0_maliceOfAll_16 rfl rfl rfl rfl rfl rfl (Nat.le_of_ble_eq_true rfl) (Nat.le_of_ble_eq_true rfl) (Nat.le_of_ble_eq_true rfl) rfl
theorem eX0_maliceOfAll_19 : ev X m_X0_maliceOfAll 19 [a0, a1, a2, a3] (vI y :: vI x :: st) mem = ev X m_X0_maliceOfAll 20 [a0, a1, a2, a3] (vI (w32 (x + y)) :: st) mem := ke_iadd dX0_maliceOfAll_19
theorem eX0_maliceOfAll_20 : ev X m_X0_maliceOfAll 20 [a0, a1, a2, a3] (vI x :: st) mem = ev X m_X0_maliceOfAll 21 [a0, a1, vI x, a3] st mem := ke_istore_n (Nat.le_of_ble_eq_true rfl) rfl dX0_maliceOfAll_20
theorem eX0_maliceOfAll_21 : ev X m_X0_maliceOfAll 21 [a0, a1, a2, vI x] st mem = ev X m_X0_maliceOfAll 24 [a0, a1, a2, vI (w32 (x + 1))] st mem := ke_iinc rfl (Nat.le_of_ble_eq_true rfl) rfl dX0_maliceOfAll_21
theorem eX0_maliceOfAll_24 : ev X m_X0_maliceOfAll 24 [a0, a1, a2, a3] st mem = ev X m_X0_maliceOfAll 4 [a0, a1, a2, a3] st mem := ke_goto dX0_maliceOfAll_24 rfl
theorem eX0_maliceOfAll_27 : ev X m_X0_maliceOfAll 27 [a0, a1, vI x, a3] st mem = ev X m_X0_maliceOfAll 28 [a0, a1, vI x, a3] (vI x :: st) mem := ke_iload_n rfl dX0_maliceOfAll_27
theorem eX0_maliceOfAll_28 : ev X m_X0_maliceOfAll 28 [a0, a1, a2, a3] [vI x] mem = some (some (vI x), mem) := ke_ireturn dX0_maliceOfAll_28 rfl
theorem eX4_two_0 : ev X m_X4_two 0 [vR r, a1, a2, a3] st mem = ev X m_X4_two 1 [vR r, a1, a2, a3] (vR r :: st) mem := ke_aload_n rfl dX4_two_0
theorem eX4_two_1 : ev X m_X4_two 1 [a0, a1, a2, a3] (vR r :: st) mem = evb X (fget mem r 4 0) m_X4_two 4 [a0, a1, a2, a3] st mem := ke_getf rfl dX4_two_1
theorem eX4_two_4 : ev X m_X4_two 4 [a0, vI x, a2, a3] st mem = ev X m_X4_two 5 [a0, vI x, a2, a3] (vI x :: st) mem := ke_iload_n rfl dX4_two_4
theorem eX4_two_5 : ev X m_X4_two 5 [a0, a1, vI x, a3] st mem = ev X m_X4_two 6 [a0, a1, vI x, a3] (vI x :: st) mem := ke_iload_n rfl dX4_two_5
theorem eX4_two_6 : ev X m_X4_two 6 [a0, a1, a2, a3] (vI n1 :: vI n0 :: vR r :: []) mem = evc X (gR mem r 0 (ev X m_X0_hasPair 0 [vR r, vI n0, vI n1] [] mem)) m_X4_two 9 [a0, a1, a2, a3] [] := ke_callV (m' := m_X0_hasPair) (as := [vI n0, vI n1]) (n := 2) (rest := []) dX4_two_6 rfl rfl rfl rfl rfl rfl (Nat.le_of_ble_eq_true rfl) (Nat.le_of_ble_eq_true rfl) (Nat.le_of_ble_eq_true rfl) rfl
theorem eX4_two_9 : ev X m_X4_two 9 [a0, a1, a2, a3] (vI x :: st) mem = if x = 0 then ev X m_X4_two 12 [a0, a1, a2, a3] st mem else ev X m_X4_two 18 [a0, a1, a2, a3] st mem := ke_if_ne dX4_two_9 rfl
theorem eX4_two_12 : ev X m_X4_two 12 [vR r, a1, a2, a3] st mem = ev X m_X4_two 13 [vR r, a1, a2, a3] (vR r :: st) mem := ke_aload_n rfl dX4_two_12
theorem eX4_two_13 : ev X m_X4_two 13 [a0, a1, a2, a3] st mem = ev X m_X4_two 14 [a0, a1, a2, a3] (vI (-1) :: st) mem := ke_iconst (by decide) dX4_two_13
theorem eX4_two_14 : ev X m_X4_two 14 [a0, a1, a2, a3] (vI n0 :: vR r :: []) mem = evc X (gR mem r 4 (ev X m_X4_refuse 0 [vR r, vI n0] [] mem)) m_X4_two 17 [a0, a1, a2, a3] [] := ke_callV (m' := m_X4_refuse) (as := [vI n0]) (n := 1) (rest := []) dX4_two_14 rfl rfl rfl rfl rfl rfl (Nat.le_of_ble_eq_true rfl) (Nat.le_of_ble_eq_true rfl) (Nat.le_of_ble_eq_true rfl) rfl
theorem eX4_two_17 : ev X m_X4_two 17 [a0, a1, a2, a3] [vI x] mem = some (some (vI x), mem) := ke_ireturn dX4_two_17 rfl
theorem eX4_two_18 : ev X m_X4_two 18 [a0, a1, a2, vI x] st mem = ev X m_X4_two 19 [a0, a1, a2, vI x] (vI x :: st) mem := ke_iload_n rfl dX4_two_18
theorem eX4_two_19 : ev X m_X4_two 19 [a0, a1, a2, a3] st mem = ev X m_X4_two 20 [a0, a1, a2, a3] (vI 1 :: st) mem := ke_iconst (by decide) dX4_two_19
theorem eX4_two_20 : ev X m_X4_two 20 [a0, a1, a2, a3] (vI y :: vI x :: st) mem = if x < y then ev X m_X4_two 23 [a0, a1, a2, a3] st mem else ev X m_X4_two 30 [a0, a1, a2, a3] st mem := ke_icmp_ge dX4_two_20 rfl
theorem eX4_two_23 : ev X m_X4_two 23 [vR r, a1, a2, a3] st mem = ev X m_X4_two 24 [vR r, a1, a2, a3] (vR r :: st) mem := ke_aload_n rfl dX4_two_23
theorem eX4_two_24 : ev X m_X4_two 24 [a0, a1, a2, a3] st mem = ev X m_X4_two 26 [a0, a1, a2, a3] (vI (-4) :: st) mem := ke_bipush (by decide) dX4_two_24
theorem eX4_two_26 : ev X m_X4_two 26 [a0, a1, a2, a3] (vI n0 :: vR r :: []) mem = evc X (gR mem r 4 (ev X m_X4_refuse 0 [vR r, vI n0] [] mem)) m_X4_two 29 [a0, a1, a2, a3] [] := ke_callV (m' := m_X4_refuse) (as := [vI n0]) (n := 1) (rest := []) dX4_two_26 rfl rfl rfl rfl rfl rfl (Nat.le_of_ble_eq_true rfl) (Nat.le_of_ble_eq_true rfl) (Nat.le_of_ble_eq_true rfl) rfl
theorem eX4_two_29 : ev X m_X4_two 29 [a0, a1, a2, a3] [vI x] mem = some (some (vI x), mem) := ke_ireturn dX4_two_29 rfl
theorem eX4_two_30 : ev X m_X4_two 30 [a0, a1, a2, vI x] st mem = ev X m_X4_two 31 [a0, a1, a2, vI x] (vI x :: st) mem := ke_iload_n rfl dX4_two_30
theorem eX4_two_31 : ev X m_X4_two 31 [a0, a1, a2, a3] st mem = ev X m_X4_two 33 [a0, a1, a2, a3] (vI 60 :: st) mem := ke_bipush (by decide) dX4_two_31
theorem eX4_two_33 : ev X m_X4_two 33 [a0, a1, a2, a3] (vI y :: vI x :: st) mem = if y < x then ev X m_X4_two 36 [a0, a1, a2, a3] st mem else ev X m_X4_two 43 [a0, a1, a2, a3] st mem := ke_icmp_le dX4_two_33 rfl
theorem eX4_two_36 : ev X m_X4_two 36 [vR r, a1, a2, a3] st mem = ev X m_X4_two 37 [vR r, a1, a2, a3] (vR r :: st) mem := ke_aload_n rfl dX4_two_36
theorem eX4_two_37 : ev X m_X4_two 37 [a0, a1, a2, a3] st mem = ev X m_X4_two 39 [a0, a1, a2, a3] (vI (-6) :: st) mem := ke_bipush (by decide) dX4_two_37
theorem eX4_two_39 : ev X m_X4_two 39 [a0, a1, a2, a3] (vI n0 :: vR r :: []) mem = evc X (gR mem r 4 (ev X m_X4_refuse 0 [vR r, vI n0] [] mem)) m_X4_two 42 [a0, a1, a2, a3] [] := ke_callV (m' := m_X4_refuse) (as := [vI n0]) (n := 1) (rest := []) dX4_two_39 rfl rfl rfl rfl rfl rfl (Nat.le_of_ble_eq_true rfl) (Nat.le_of_ble_eq_true rfl) (Nat.le_of_ble_eq_true rfl) rfl
theorem eX4_two_42 : ev X m_X4_two 42 [a0, a1, a2, a3] [vI x] mem = some (some (vI x), mem) := ke_ireturn dX4_two_42 rfl
theorem eX4_two_43 : ev X m_X4_two 43 [vR r, a1, a2, a3] st mem = ev X m_X4_two 44 [vR r, a1, a2, a3] (vR r :: st) mem := ke_aload_n rfl dX4_two_43
theorem eX4_two_44 : ev X m_X4_two 44 [a0, a1, a2, a3] (vR r :: st) mem = evb X (fget mem r 4 3) m_X4_two 47 [a0, a1, a2, a3] st mem := ke_getf rfl dX4_two_44
theorem eX4_two_47 : ev X m_X4_two 47 [vR r, a1, a2, a3] st mem = ev X m_X4_two 48 [vR r, a1, a2, a3] (vR r :: st) mem := ke_aload_n rfl dX4_two_47
theorem eX4_two_48 : ev X m_X4_two 48 [a0, a1, a2, a3] (vR r :: st) mem = evb X (fget mem r 4 0) m_X4_two 51 [a0, a1, a2, a3] st mem := ke_getf rfl dX4_two_48
theorem eX4_two_51 : ev X m_X4_two 51 [a0, vI x, a2, a3] st mem = ev X m_X4_two 52 [a0, vI x, a2, a3] (vI x :: st) mem := ke_iload_n rfl dX4_two_51
theorem eX4_two_52 : ev X m_X4_two 52 [a0, a1, vI x, a3] st mem = ev X m_X4_two 53 [a0, a1, vI x, a3] (vI x :: st) mem := ke_iload_n rfl dX4_two_52
theorem eX4_two_53 : ev X m_X4_two 53 [a0, a1, a2, vI x] st mem = ev X m_X4_two 54 [a0, a1, a2, vI x] (vI x :: st) mem := ke_iload_n rfl dX4_two_53
theorem eX4_two_54 : ev X m_X4_two 54 [a0, a1, a2, a3] (vI n3 :: vI n2 :: vI n1 :: vR r0 :: vR r :: []) mem = evc X (gR mem r 3 (ev X m_X3_court 0 [vR r, vR r0, vI n1, vI n2, vI n3, vS] [] mem)) m_X4_two 57 [a0, a1, a2, a3] [] := ke_callV (m' := m_X3_court) (as := [vR r0, vI n1, vI n2, vI n3]) (n := 4) (rest := []) dX4_two_54 rfl rfl rfl rfl rfl rfl (Nat.le_of_ble_eq_true rfl) (Nat.le_of_ble_eq_true rfl) (Nat.le_of_ble_eq_true rfl) rfl
theorem eX4_two_57 : ev X m_X4_two 57 [a0, a1, a2, a3] [vI x] mem = some (some (vI x), mem) := ke_ireturn dX4_two_57 rfl
theorem eX3_court_0 : ev X m_X3_court 0 [a0, a1, a2, a3, a4, a5] st mem = ev X m_X3_court 1 [a0, a1, a2, a3, a4, a5] (vI 0 :: st) mem := ke_iconst (by decide) dX3_court_0
theorem eX3_court_1 : ev X m_X3_court 1 [a0, a1, a2, a3, a4, a5] (vI x :: st) mem = ev X m_X3_court 3 [a0, a1, a2, a3, a4, vI x] st mem := ke_istore (Nat.le_of_ble_eq_true rfl) rfl dX3_court_1
theorem eX3_court_3 : ev X m_X3_court 3 [a0, a1, a2, a3, a4, vI x] st mem = ev X m_X3_court 5 [a0, a1, a2, a3, a4, vI x] (vI x :: st) mem := ke_iload rfl dX3_court_3
theorem eX3_court_5 : ev X m_X3_court 5 [a0, a1, a2, a3, a4, a5] st mem = ev X m_X3_court 6 [a0, a1, a2, a3, a4, a5] (vI 4 :: st) mem := ke_iconst (by decide) dX3_court_5
theorem eX3_court_6 : ev X m_X3_court 6 [a0, a1, a2, a3, a4, a5] (vI y :: vI x :: st) mem = if x < y then ev X m_X3_court 9 [a0, a1, a2, a3, a4, a5] st mem else ev X m_X3_court 94 [a0, a1, a2, a3, a4, a5] st mem := ke_icmp_ge dX3_court_6 rfl
theorem eX3_court_9 : ev X m_X3_court 9 [vR r, a1, a2, a3, a4, a5] st mem = ev X m_X3_court 10 [vR r, a1, a2, a3, a4, a5] (vR r :: st) mem := ke_aload_n rfl dX3_court_9
theorem eX3_court_10 : ev X m_X3_court 10 [a0, a1, a2, a3, a4, a5] (vR r :: st) mem = evb X (fget mem r 3 0) m_X3_court 13 [a0, a1, a2, a3, a4, a5] st mem := ke_getf rfl dX3_court_10
theorem eX3_court_13 : ev X m_X3_court 13 [a0, vR r, a2, a3, a4, a5] st mem = ev X m_X3_court 14 [a0, vR r, a2, a3, a4, a5] (vR r :: st) mem := ke_aload_n rfl dX3_court_13
theorem eX3_court_14 : ev X m_X3_court 14 [a0, a1, a2, a3, a4, a5] (vR r0 :: vR r :: []) mem = evc X (gR mem r 0 (ev X m_X0_become 0 [vR r, vR r0] [] mem)) m_X3_court 17 [a0, a1, a2, a3, a4, a5] [] := ke_callV (m' := m_X0_become) (as := [vR r0]) (n := 1) (rest := []) dX3_court_14 rfl rfl rfl rfl rfl rfl (Nat.le_of_ble_eq_true rfl) (Nat.le_of_ble_eq_true rfl) (Nat.le_of_ble_eq_true rfl) rfl
theorem eX3_court_17 : ev X m_X3_court 17 [a0, a1, a2, a3, a4, vI x] st mem = ev X m_X3_court 19 [a0, a1, a2, a3, a4, vI x] (vI x :: st) mem := ke_iload rfl dX3_court_17
theorem eX3_court_19 : ev X m_X3_court 19 [a0, a1, a2, a3, a4, a5] st mem = ev X m_X3_court 20 [a0, a1, a2, a3, a4, a5] (vI 2 :: st) mem := ke_iconst (by decide) dX3_court_19
theorem eX3_court_20 : ev X m_X3_court 20 [a0, a1, a2, a3, a4, a5] (vI y :: vI x :: st) mem = if x < y then ev X m_X3_court 35 [a0, a1, a2, a3, a4, a5] st mem else ev X m_X3_court 23 [a0, a1, a2, a3, a4, a5] st mem := ke_icmp_lt dX3_court_20 rfl
theorem eX3_court_23 : ev X m_X3_court 23 [vR r, a1, a2, a3, a4, a5] st mem = ev X m_X3_court 24 [vR r, a1, a2, a3, a4, a5] (vR r :: st) mem := ke_aload_n rfl dX3_court_23
theorem eX3_court_24 : ev X m_X3_court 24 [a0, a1, a2, a3, a4, a5] (vR r :: st) mem = evb X (fget mem r 3 0) m_X3_court 27 [a0, a1, a2, a3, a4, a5] st mem := ke_getf rfl dX3_court_24
theorem eX3_court_27 : ev X m_X3_court 27 [a0, a1, a2, vI x, a4, a5] st mem = ev X m_X3_court 28 [a0, a1, a2, vI x, a4, a5] (vI x :: st) mem := ke_iload_n rfl dX3_court_27
theorem eX3_court_28 : ev X m_X3_court 28 [a0, a1, vI x, a3, a4, a5] st mem = ev X m_X3_court 29 [a0, a1, vI x, a3, a4, a5] (vI x :: st) mem := ke_iload_n rfl dX3_court_28
theorem eX3_court_29 : ev X m_X3_court 29 [a0, a1, a2, a3, a4, a5] st mem = ev X m_X3_court 31 [a0, a1, a2, a3, a4, a5] (vI 10 :: st) mem := ke_bipush (by decide) dX3_court_29
theorem eX3_court_31 : ev X m_X3_court 31 [a0, a1, a2, a3, a4, a5] (vI n2 :: vI n1 :: vI n0 :: vR r :: []) mem = evc X (gR mem r 0 (ev X m_X0_addHate 0 [vR r, vI n0, vI n1, vI n2, vS] [] mem)) m_X3_court 34 [a0, a1, a2, a3, a4, a5] [] := ke_callV (m' := m_X0_addHate) (as := [vI n0, vI n1, vI n2]) (n := 3) (rest := []) dX3_court_31 rfl rfl rfl rfl rfl rfl (Nat.le_of_ble_eq_true rfl) (Nat.le_of_ble_eq_true rfl) (Nat.le_of_ble_eq_true rfl) rfl
theorem eX3_court_34 : ev X m_X3_court 34 [a0, a1, a2, a3, a4, a5] (vI x :: st) mem = ev X m_X3_court 35 [a0, a1, a2, a3, a4, a5] st mem := ke_popI dX3_court_34
theorem eX3_court_34r : ev X m_X3_court 34 [a0, a1, a2, a3, a4, a5] (vR r :: st) mem = ev X m_X3_court 35 [a0, a1, a2, a3, a4, a5] st mem := ke_popR dX3_court_34
theorem eX3_court_35 : ev X m_X3_court 35 [a0, a1, a2, a3, a4, vI x] st mem = ev X m_X3_court 37 [a0, a1, a2, a3, a4, vI x] (vI x :: st) mem := ke_iload rfl dX3_court_35
theorem eX3_court_37 : ev X m_X3_court 37 [a0, a1, a2, a3, a4, a5] st mem = ev X m_X3_court 38 [a0, a1, a2, a3, a4, a5] (vI 2 :: st) mem := ke_iconst (by decide) dX3_court_37
theorem eX3_court_38 : ev X m_X3_court 38 [a0, a1, a2, a3, a4, a5] (vI y :: vI x :: st) mem = if y = 0 then none else ev X m_X3_court 39 [a0, a1, a2, a3, a4, a5] (vI (w32 (x.tmod y)) :: st) mem := ke_irem dX3_court_38
theorem eX3_court_39 : ev X m_X3_court 39 [a0, a1, a2, a3, a4, a5] st mem = ev X m_X3_court 40 [a0, a1, a2, a3, a4, a5] (vI 1 :: st) mem := ke_iconst (by decide) dX3_court_39
theorem eX3_court_40 : ev X m_X3_court 40 [a0, a1, a2, a3, a4, a5] (vI y :: vI x :: st) mem = if x = y then ev X m_X3_court 43 [a0, a1, a2, a3, a4, a5] st mem else ev X m_X3_court 55 [a0, a1, a2, a3, a4, a5] st mem := ke_icmp_ne dX3_court_40 rfl
theorem eX3_court_43 : ev X m_X3_court 43 [vR r, a1, a2, a3, a4, a5] st mem = ev X m_X3_court 44 [vR r, a1, a2, a3, a4, a5] (vR r :: st) mem := ke_aload_n rfl dX3_court_43
theorem eX3_court_44 : ev X m_X3_court 44 [a0, a1, a2, a3, a4, a5] (vR r :: st) mem = evb X (fget mem r 3 0) m_X3_court 47 [a0, a1, a2, a3, a4, a5] st mem := ke_getf rfl dX3_court_44
theorem eX3_court_47 : ev X m_X3_court 47 [a0, a1, vI x, a3, a4, a5] st mem = ev X m_X3_court 48 [a0, a1, vI x, a3, a4, a5] (vI x :: st) mem := ke_iload_n rfl dX3_court_47
theorem eX3_court_48 : ev X m_X3_court 48 [a0, a1, a2, vI x, a4, a5] st mem = ev X m_X3_court 49 [a0, a1, a2, vI x, a4, a5] (vI x :: st) mem := ke_iload_n rfl dX3_court_48
theorem eX3_court_49 : ev X m_X3_court 49 [a0, a1, a2, a3, a4, a5] st mem = ev X m_X3_court 51 [a0, a1, a2, a3, a4, a5] (vI 10 :: st) mem := ke_bipush (by decide) dX3_court_49
theorem eX3_court_51 : ev X m_X3_court 51 [a0, a1, a2, a3, a4, a5] (vI n2 :: vI n1 :: vI n0 :: vR r :: []) mem = evc X (gR mem r 0 (ev X m_X0_addHate 0 [vR r, vI n0, vI n1, vI n2, vS] [] mem)) m_X3_court 54 [a0, a1, a2, a3, a4, a5] [] := ke_callV (m' := m_X0_addHate) (as := [vI n0, vI n1, vI n2]) (n := 3) (rest := []) dX3_court_51 rfl rfl rfl rfl rfl rfl (Nat.le_of_ble_eq_true rfl) (Nat.le_of_ble_eq_true rfl) (Nat.le_of_ble_eq_true rfl) rfl
theorem eX3_court_54 : ev X m_X3_court 54 [a0, a1, a2, a3, a4, a5] (vI x :: st) mem = ev X m_X3_court 55 [a0, a1, a2, a3, a4, a5] st mem := ke_popI dX3_court_54
theorem eX3_court_54r : ev X m_X3_court 54 [a0, a1, a2, a3, a4, a5] (vR r :: st) mem = ev X m_X3_court 55 [a0, a1, a2, a3, a4, a5] st mem := ke_popR dX3_court_54
theorem eX3_court_55 : ev X m_X3_court 55 [vR r, a1, a2, a3, a4, a5] st mem = ev X m_X3_court 56 [vR r, a1, a2, a3, a4, a5] (vR r :: st) mem := ke_aload_n rfl dX3_court_55
theorem eX3_court_56 : ev X m_X3_court 56 [a0, a1, a2, a3, a4, a5] (vR r :: st) mem = evb X (fget mem r 3 0) m_X3_court 59 [a0, a1, a2, a3, a4, a5] st mem := ke_getf rfl dX3_court_56
theorem eX3_court_59 : ev X m_X3_court 59 [a0, a1, a2, a3, vI x, a5] st mem = ev X m_X3_court 61 [a0, a1, a2, a3, vI x, a5] (vI x :: st) mem := ke_iload rfl dX3_court_59
theorem eX3_court_61 : ev X m_X3_court 61 [a0, a1, a2, a3, a4, a5] (vI n0 :: vR r :: []) mem = evc X (gR mem r 0 (ev X m_X0_passDays 0 [vR r, vI n0, vS] [] mem)) m_X3_court 64 [a0, a1, a2, a3, a4, a5] [] := ke_callV (m' := m_X0_passDays) (as := [vI n0]) (n := 1) (rest := []) dX3_court_61 rfl rfl rfl rfl rfl rfl (Nat.le_of_ble_eq_true rfl) (Nat.le_of_ble_eq_true rfl) (Nat.le_of_ble_eq_true rfl) rfl
theorem eX3_court_64 : ev X m_X3_court 64 [vR r, a1, a2, a3, a4, a5] st mem = ev X m_X3_court 65 [vR r, a1, a2, a3, a4, a5] (vR r :: st) mem := ke_aload_n rfl dX3_court_64
theorem eX3_court_65 : ev X m_X3_court 65 [a0, a1, a2, a3, a4, a5] (vR r :: st) mem = evb X (fget mem r 3 2) m_X3_court 68 [a0, a1, a2, a3, a4, a5] st mem := ke_getf rfl dX3_court_65
theorem eX3_court_68 : ev X m_X3_court 68 [a0, a1, a2, a3, a4, vI x] st mem = ev X m_X3_court 70 [a0, a1, a2, a3, a4, vI x] (vI x :: st) mem := ke_iload rfl dX3_court_68
theorem eX3_court_70 : ev X m_X3_court 70 [vR r, a1, a2, a3, a4, a5] st mem = ev X m_X3_court 71 [vR r, a1, a2, a3, a4, a5] (vR r :: st) mem := ke_aload_n rfl dX3_court_70
theorem eX3_court_71 : ev X m_X3_court 71 [a0, a1, vI x, a3, a4, a5] st mem = ev X m_X3_court 72 [a0, a1, vI x, a3, a4, a5] (vI x :: st) mem := ke_iload_n rfl dX3_court_71
theorem eX3_court_72 : ev X m_X3_court 72 [a0, a1, a2, a3, a4, a5] (vI n0 :: vR r :: [s0, s1]) mem = evc X (gR mem r 3 (ev X m_X3_broughtTo 0 [vR r, vI n0, vS, vS] [] mem)) m_X3_court 75 [a0, a1, a2, a3, a4, a5] [s0, s1] := ke_callV (m' := m_X3_broughtTo) (as := [vI n0]) (n := 1) (rest := [s0, s1]) dX3_court_72 rfl rfl rfl rfl rfl rfl (Nat.le_of_ble_eq_true rfl) (Nat.le_of_ble_eq_true rfl) (Nat.le_of_ble_eq_true rfl) rfl
theorem eX3_court_75 : ev X m_X3_court 75 [a0, a1, a2, a3, a4, a5] (vI y :: vI x :: vR r :: st) mem = evm X (aput mem r x y) m_X3_court 76 [a0, a1, a2, a3, a4, a5] st := ke_iastore dX3_court_75
theorem eX3_court_76 : ev X m_X3_court 76 [vR r, a1, a2, a3, a4, a5] st mem = ev X m_X3_court 77 [vR r, a1, a2, a3, a4, a5] (vR r :: st) mem := ke_aload_n rfl dX3_court_76
theorem eX3_court_77 : ev X m_X3_court 77 [a0, a1, a2, a3, a4, a5] (vR r :: st) mem = evb X (fget mem r 3 3) m_X3_court 80 [a0, a1, a2, a3, a4, a5] st mem := ke_getf rfl dX3_court_77
theorem eX3_court_80 : ev X m_X3_court 80 [a0, a1, a2, a3, a4, vI x] st mem = ev X m_X3_court 82 [a0, a1, a2, a3, a4, vI x] (vI x :: st) mem := ke_iload rfl dX3_court_80
theorem eX3_court_82 : ev X m_X3_court 82 [vR r, a1, a2, a3, a4, a5] st mem = ev X m_X3_court 83 [vR r, a1, a2, a3, a4, a5] (vR r :: st) mem := ke_aload_n rfl dX3_court_82
theorem eX3_court_83 : ev X m_X3_court 83 [a0, a1, a2, vI x, a4, a5] st mem = ev X m_X3_court 84 [a0, a1, a2, vI x, a4, a5] (vI x :: st) mem := ke_iload_n rfl dX3_court_83
theorem eX3_court_84 : ev X m_X3_court 84 [a0, a1, a2, a3, a4, a5] (vI n0 :: vR r :: [s0, s1]) mem = evc X (gR mem r 3 (ev X m_X3_broughtTo 0 [vR r, vI n0, vS, vS] [] mem)) m_X3_court 87 [a0, a1, a2, a3, a4, a5] [s0, s1] := ke_callV (m' := m_X3_broughtTo) (as := [vI n0]) (n := 1) (rest := [s0, s1]) dX3_court_84 rfl rfl rfl rfl rfl rfl (Nat.le_of_ble_eq_true rfl) (Nat.le_of_ble_eq_true rfl) (Nat.le_of_ble_eq_true rfl) rfl
theorem eX3_court_87 : ev X m_X3_court 87 [a0, a1, a2, a3, a4, a5] (vI y :: vI x :: vR r :: st) mem = evm X (aput mem r x y) m_X3_court 88 [a0, a1, a2, a3, a4, a5] st := ke_iastore dX3_court_87
theorem eX3_court_88 : ev X m_X3_court 88 [a0, a1, a2, a3, a4, vI x] st mem = ev X m_X3_court 91 [a0, a1, a2, a3, a4, vI (w32 (x + 1))] st mem := ke_iinc rfl (Nat.le_of_ble_eq_true rfl) rfl dX3_court_88
theorem eX3_court_91 : ev X m_X3_court 91 [a0, a1, a2, a3, a4, a5] st mem = ev X m_X3_court 3 [a0, a1, a2, a3, a4, a5] st mem := ke_goto dX3_court_91 rfl
theorem eX3_court_94 : ev X m_X3_court 94 [a0, a1, a2, a3, a4, a5] st mem = ev X m_X3_court 95 [a0, a1, a2, a3, a4, a5] (vI 0 :: st) mem := ke_iconst (by decide) dX3_court_94
theorem eX3_court_95 : ev X m_X3_court 95 [a0, a1, a2, a3, a4, a5] (vI x :: st) mem = ev X m_X3_court 97 [a0, a1, a2, a3, a4, vI x] st mem := ke_istore (Nat.le_of_ble_eq_true rfl) rfl dX3_court_95
theorem eX3_court_97 : ev X m_X3_court 97 [a0, a1, a2, a3, a4, vI x] st mem = ev X m_X3_court 99 [a0, a1, a2, a3, a4, vI x] (vI x :: st) mem := ke_iload rfl dX3_court_97
theorem eX3_court_99 : ev X m_X3_court 99 [a0, a1, a2, a3, a4, a5] st mem = ev X m_X3_court 100 [a0, a1, a2, a3, a4, a5] (vI 4 :: st) mem := ke_iconst (by decide) dX3_court_99
theorem eX3_court_100 : ev X m_X3_court 100 [a0, a1, a2, a3, a4, a5] (vI y :: vI x :: st) mem = if x < y then ev X m_X3_court 103 [a0, a1, a2, a3, a4, a5] st mem else ev X m_X3_court 160 [a0, a1, a2, a3, a4, a5] st mem := ke_icmp_ge dX3_court_100 rfl
theorem eX3_court_103 : ev X m_X3_court 103 [vR r, a1, a2, a3, a4, a5] st mem = ev X m_X3_court 104 [vR r, a1, a2, a3, a4, a5] (vR r :: st) mem := ke_aload_n rfl dX3_court_103
theorem eX3_court_104 : ev X m_X3_court 104 [a0, a1, a2, a3, a4, a5] (vR r :: st) mem = evb X (fget mem r 3 2) m_X3_court 107 [a0, a1, a2, a3, a4, a5] st mem := ke_getf rfl dX3_court_104
theorem eX3_court_107 : ev X m_X3_court 107 [a0, a1, a2, a3, a4, vI x] st mem = ev X m_X3_court 109 [a0, a1, a2, a3, a4, vI x] (vI x :: st) mem := ke_iload rfl dX3_court_107
theorem eX3_court_109 : ev X m_X3_court 109 [a0, a1, a2, a3, a4, a5] (vI x :: vR r :: st) mem = evb X (aget mem r x) m_X3_court 110 [a0, a1, a2, a3, a4, a5] st mem := ke_iaload dX3_court_109
theorem eX3_court_110 : ev X m_X3_court 110 [vR r, a1, a2, a3, a4, a5] st mem = ev X m_X3_court 111 [vR r, a1, a2, a3, a4, a5] (vR r :: st) mem := ke_aload_n rfl dX3_court_110
theorem eX3_court_111 : ev X m_X3_court 111 [a0, a1, a2, a3, a4, a5] (vR r :: st) mem = evb X (fget mem r 3 2) m_X3_court 114 [a0, a1, a2, a3, a4, a5] st mem := ke_getf rfl dX3_court_111
theorem eX3_court_114 : ev X m_X3_court 114 [a0, a1, a2, a3, a4, vI x] st mem = ev X m_X3_court 116 [a0, a1, a2, a3, a4, vI x] (vI x :: st) mem := ke_iload rfl dX3_court_114
theorem eX3_court_116 : ev X m_X3_court 116 [a0, a1, a2, a3, a4, a5] st mem = ev X m_X3_court 117 [a0, a1, a2, a3, a4, a5] (vI 2 :: st) mem := ke_iconst (by decide) dX3_court_116
theorem eX3_court_117 : ev X m_X3_court 117 [a0, a1, a2, a3, a4, a5] (vI y :: vI x :: st) mem = ev X m_X3_court 118 [a0, a1, a2, a3, a4, a5] (vI (xor32 x y) :: st) mem := ke_ixor dX3_court_117
theorem eX3_court_118 : ev X m_X3_court 118 [a0, a1, a2, a3, a4, a5] (vI x :: vR r :: st) mem = evb X (aget mem r x) m_X3_court 119 [a0, a1, a2, a3, a4, a5] st mem := ke_iaload dX3_court_118
theorem eX3_court_119 : ev X m_X3_court 119 [a0, a1, a2, a3, a4, a5] (vI y :: vI x :: st) mem = if x < y then ev X m_X3_court 154 [a0, a1, a2, a3, a4, a5] st mem else ev X m_X3_court 122 [a0, a1, a2, a3, a4, a5] st mem := ke_icmp_lt dX3_court_119 rfl
theorem eX3_court_122 : ev X m_X3_court 122 [vR r, a1, a2, a3, a4, a5] st mem = ev X m_X3_court 123 [vR r, a1, a2, a3, a4, a5] (vR r :: st) mem := ke_aload_n rfl dX3_court_122
theorem eX3_court_123 : ev X m_X3_court 123 [a0, a1, a2, a3, a4, a5] (vR r :: st) mem = evb X (fget mem r 3 3) m_X3_court 126 [a0, a1, a2, a3, a4, a5] st mem := ke_getf rfl dX3_court_123
theorem eX3_court_126 : ev X m_X3_court 126 [a0, a1, a2, a3, a4, vI x] st mem = ev X m_X3_court 128 [a0, a1, a2, a3, a4, vI x] (vI x :: st) mem := ke_iload rfl dX3_court_126
theorem eX3_court_128 : ev X m_X3_court 128 [a0, a1, a2, a3, a4, a5] (vI x :: vR r :: st) mem = evb X (aget mem r x) m_X3_court 129 [a0, a1, a2, a3, a4, a5] st mem := ke_iaload dX3_court_128
theorem eX3_court_129 : ev X m_X3_court 129 [vR r, a1, a2, a3, a4, a5] st mem = ev X m_X3_court 130 [vR r, a1, a2, a3, a4, a5] (vR r :: st) mem := ke_aload_n rfl dX3_court_129
theorem eX3_court_130 : ev X m_X3_court 130 [a0, a1, a2, a3, a4, a5] (vR r :: st) mem = evb X (fget mem r 3 3) m_X3_court 133 [a0, a1, a2, a3, a4, a5] st mem := ke_getf rfl dX3_court_130
theorem eX3_court_133 : ev X m_X3_court 133 [a0, a1, a2, a3, a4, vI x] st mem = ev X m_X3_court 135 [a0, a1, a2, a3, a4, vI x] (vI x :: st) mem := ke_iload rfl dX3_court_133
theorem eX3_court_135 : ev X m_X3_court 135 [a0, a1, a2, a3, a4, a5] st mem = ev X m_X3_court 136 [a0, a1, a2, a3, a4, a5] (vI 1 :: st) mem := ke_iconst (by decide) dX3_court_135
theorem eX3_court_136 : ev X m_X3_court 136 [a0, a1, a2, a3, a4, a5] (vI y :: vI x :: st) mem = ev X m_X3_court 137 [a0, a1, a2, a3, a4, a5] (vI (xor32 x y) :: st) mem := ke_ixor dX3_court_136
theorem eX3_court_137 : ev X m_X3_court 137 [a0, a1, a2, a3, a4, a5] (vI x :: vR r :: st) mem = evb X (aget mem r x) m_X3_court 138 [a0, a1, a2, a3, a4, a5] st mem := ke_iaload dX3_court_137
theorem eX3_court_138 : ev X m_X3_court 138 [a0, a1, a2, a3, a4, a5] (vI y :: vI x :: st) mem = if x < y then ev X m_X3_court 154 [a0, a1, a2, a3, a4, a5] st mem else ev X m_X3_court 141 [a0, a1, a2, a3, a4, a5] st mem := ke_icmp_lt dX3_court_138 rfl
theorem eX3_court_141 : ev X m_X3_court 141 [a0, a1, a2, a3, a4, a5] st mem = ev X m_X3_court 143 [a0, a1, a2, a3, a4, a5] (vI 10 :: st) mem := ke_bipush (by decide) dX3_court_141
theorem eX3_court_143 : ev X m_X3_court 143 [a0, a1, a2, a3, a4, vI x] st mem = ev X m_X3_court 145 [a0, a1, a2, a3, a4, vI x] (vI x :: st) mem := ke_iload rfl dX3_court_143
theorem eX3_court_145 : ev X m_X3_court 145 [a0, a1, a2, a3, a4, a5] st mem = ev X m_X3_court 146 [a0, a1, a2, a3, a4, a5] (vI 2 :: st) mem := ke_iconst (by decide) dX3_court_145
theorem eX3_court_146 : ev X m_X3_court 146 [a0, a1, a2, a3, a4, a5] (vI y :: vI x :: st) mem = if y = 0 then none else ev X m_X3_court 147 [a0, a1, a2, a3, a4, a5] (vI (w32 (x.tdiv y)) :: st) mem := ke_idiv dX3_court_146
theorem eX3_court_147 : ev X m_X3_court 147 [a0, a1, a2, a3, a4, a5] (vI y :: vI x :: st) mem = ev X m_X3_court 148 [a0, a1, a2, a3, a4, a5] (vI (w32 (x * y)) :: st) mem := ke_imul dX3_court_147
theorem eX3_court_148 : ev X m_X3_court 148 [a0, a1, a2, a3, a4, vI x] st mem = ev X m_X3_court 150 [a0, a1, a2, a3, a4, vI x] (vI x :: st) mem := ke_iload rfl dX3_court_148
theorem eX3_court_150 : ev X m_X3_court 150 [a0, a1, a2, a3, a4, a5] st mem = ev X m_X3_court 151 [a0, a1, a2, a3, a4, a5] (vI 2 :: st) mem := ke_iconst (by decide) dX3_court_150
theorem eX3_court_151 : ev X m_X3_court 151 [a0, a1, a2, a3, a4, a5] (vI y :: vI x :: st) mem = if y = 0 then none else ev X m_X3_court 152 [a0, a1, a2, a3, a4, a5] (vI (w32 (x.tmod y)) :: st) mem := ke_irem dX3_court_151
theorem eX3_court_152 : ev X m_X3_court 152 [a0, a1, a2, a3, a4, a5] (vI y :: vI x :: st) mem = ev X m_X3_court 153 [a0, a1, a2, a3, a4, a5] (vI (w32 (x + y)) :: st) mem := ke_iadd dX3_court_152
theorem eX3_court_153 : ev X m_X3_court 153 [a0, a1, a2, a3, a4, a5] [vI x] mem = some (some (vI x), mem) := ke_ireturn dX3_court_153 rfl
theorem eX3_court_154 : ev X m_X3_court 154 [a0, a1, a2, a3, a4, vI x] st mem = ev X m_X3_court 157 [a0, a1, a2, a3, a4, vI (w32 (x + 1))] st mem := ke_iinc rfl (Nat.le_of_ble_eq_true rfl) rfl dX3_court_154
theorem eX3_court_157 : ev X m_X3_court 157 [a0, a1, a2, a3, a4, a5] st mem = ev X m_X3_court 97 [a0, a1, a2, a3, a4, a5] st mem := ke_goto dX3_court_157 rfl
theorem eX3_court_160 : ev X m_X3_court 160 [a0, a1, a2, a3, a4, a5] st mem = ev X m_X3_court 162 [a0, a1, a2, a3, a4, a5] (vI (-9) :: st) mem := ke_bipush (by decide) dX3_court_160
theorem eX3_court_162 : ev X m_X3_court 162 [a0, a1, a2, a3, a4, a5] [vI x] mem = some (some (vI x), mem) := ke_ireturn dX3_court_162 rfl
theorem eX3_broughtTo_0 : ev X m_X3_broughtTo 0 [a0, a1, a2, a3] st mem = ev X m_X3_broughtTo 1 [a0, a1, a2, a3] (vI 0 :: st) mem := ke_iconst (by decide) dX3_broughtTo_0
theorem eX3_broughtTo_1 : ev X m_X3_broughtTo 1 [a0, a1, a2, a3] (vI x :: st) mem = ev X m_X3_broughtTo 2 [a0, a1, vI x, a3] st mem := ke_istore_n (Nat.le_of_ble_eq_true rfl) rfl dX3_broughtTo_1
theorem eX3_broughtTo_2 : ev X m_X3_broughtTo 2 [a0, a1, a2, a3] st mem = ev X m_X3_broughtTo 3 [a0, a1, a2, a3] (vI 0 :: st) mem := ke_iconst (by decide) dX3_broughtTo_2
theorem eX3_broughtTo_3 : ev X m_X3_broughtTo 3 [a0, a1, a2, a3] (vI x :: st) mem = ev X m_X3_broughtTo 4 [a0, a1, a2, vI x] st mem := ke_istore_n (Nat.le_of_ble_eq_true rfl) rfl dX3_broughtTo_3
theorem eX3_broughtTo_4 : ev X m_X3_broughtTo 4 [a0, a1, a2, vI x] st mem = ev X m_X3_broughtTo 5 [a0, a1, a2, vI x] (vI x :: st) mem := ke_iload_n rfl dX3_broughtTo_4
theorem eX3_broughtTo_5 : ev X m_X3_broughtTo 5 [vR r, a1, a2, a3] st mem = ev X m_X3_broughtTo 6 [vR r, a1, a2, a3] (vR r :: st) mem := ke_aload_n rfl dX3_broughtTo_5
theorem eX3_broughtTo_6 : ev X m_X3_broughtTo 6 [a0, a1, a2, a3] (vR r :: st) mem = evb X (fget mem r 3 0) m_X3_broughtTo 9 [a0, a1, a2, a3] st mem := ke_getf rfl dX3_broughtTo_6
theorem eX3_broughtTo_9 : ev X m_X3_broughtTo 9 [a0, a1, a2, a3] (vR r :: st) mem = evb X (fget mem r 0 1) m_X3_broughtTo 12 [a0, a1, a2, a3] st mem := ke_getf rfl dX3_broughtTo_9
theorem eX3_broughtTo_12 : ev X m_X3_broughtTo 12 [a0, a1, a2, a3] (vI y :: vI x :: st) mem = if x < y then ev X m_X3_broughtTo 15 [a0, a1, a2, a3] st mem else ev X m_X3_broughtTo 48 [a0, a1, a2, a3] st mem := ke_icmp_ge dX3_broughtTo_12 rfl
theorem eX3_broughtTo_15 : ev X m_X3_broughtTo 15 [vR r, a1, a2, a3] st mem = ev X m_X3_broughtTo 16 [vR r, a1, a2, a3] (vR r :: st) mem := ke_aload_n rfl dX3_broughtTo_15
theorem eX3_broughtTo_16 : ev X m_X3_broughtTo 16 [a0, a1, a2, a3] (vR r :: st) mem = evb X (fget mem r 3 0) m_X3_broughtTo 19 [a0, a1, a2, a3] st mem := ke_getf rfl dX3_broughtTo_16
theorem eX3_broughtTo_19 : ev X m_X3_broughtTo 19 [a0, a1, a2, vI x] st mem = ev X m_X3_broughtTo 20 [a0, a1, a2, vI x] (vI x :: st) mem := ke_iload_n rfl dX3_broughtTo_19
theorem eX3_broughtTo_20 : ev X m_X3_broughtTo 20 [a0, a1, a2, a3] (vI n0 :: vR r :: []) mem = evc X (gR mem r 0 (ev X m_X0_stateOf 0 [vR r, vI n0] [] mem)) m_X3_broughtTo 23 [a0, a1, a2, a3] [] := ke_callV (m' := m_X0_stateOf) (as := [vI n0]) (n := 1) (rest := []) dX3_broughtTo_20 rfl rfl rfl rfl rfl rfl (Nat.le_of_ble_eq_true rfl) (Nat.le_of_ble_eq_true rfl) (Nat.le_of_ble_eq_true rfl) rfl
theorem eX3_broughtTo_23 : ev X m_X3_broughtTo 23 [a0, a1, a2, a3] st mem = ev X m_X3_broughtTo 24 [a0, a1, a2, a3] (vI 2 :: st) mem := ke_iconst (by decide) dX3_broughtTo_23
theorem eX3_broughtTo_24 : ev X m_X3_broughtTo 24 [a0, a1, a2, a3] (vI y :: vI x :: st) mem = if x = y then ev X m_X3_broughtTo 27 [a0, a1, a2, a3] st mem else ev X m_X3_broughtTo 42 [a0, a1, a2, a3] st mem := ke_icmp_ne dX3_broughtTo_24 rfl
theorem eX3_broughtTo_27 : ev X m_X3_broughtTo 27 [vR r, a1, a2, a3] st mem = ev X m_X3_broughtTo 28 [vR r, a1, a2, a3] (vR r :: st) mem := ke_aload_n rfl dX3_broughtTo_27
theorem eX3_broughtTo_28 : ev X m_X3_broughtTo 28 [a0, a1, a2, a3] (vR r :: st) mem = evb X (fget mem r 3 0) m_X3_broughtTo 31 [a0, a1, a2, a3] st mem := ke_getf rfl dX3_broughtTo_28
theorem eX3_broughtTo_31 : ev X m_X3_broughtTo 31 [a0, a1, a2, vI x] st mem = ev X m_X3_broughtTo 32 [a0, a1, a2, vI x] (vI x :: st) mem := ke_iload_n rfl dX3_broughtTo_31
theorem eX3_broughtTo_32 : ev X m_X3_broughtTo 32 [a0, a1, a2, a3] (vI n0 :: vR r :: []) mem = evc X (gR mem r 0 (ev X m_X0_receiverOf 0 [vR r, vI n0] [] mem)) m_X3_broughtTo 35 [a0, a1, a2, a3] [] := ke_callV (m' := m_X0_receiverOf) (as := [vI n0]) (n := 1) (rest := []) dX3_broughtTo_32 rfl rfl rfl rfl rfl rfl (Nat.le_of_ble_eq_true rfl) (Nat.le_of_ble_eq_true rfl) (Nat.le_of_ble_eq_true rfl) rfl
theorem eX3_broughtTo_35 : ev X m_X3_broughtTo 35 [a0, vI x, a2, a3] st mem = ev X m_X3_broughtTo 36 [a0, vI x, a2, a3] (vI x :: st) mem := ke_iload_n rfl dX3_broughtTo_35
theorem eX3_broughtTo_36 : ev X m_X3_broughtTo 36 [a0, a1, a2, a3] (vI y :: vI x :: st) mem = if x = y then ev X m_X3_broughtTo 39 [a0, a1, a2, a3] st mem else ev X m_X3_broughtTo 42 [a0, a1, a2, a3] st mem := ke_icmp_ne dX3_broughtTo_36 rfl
theorem eX3_broughtTo_39 : ev X m_X3_broughtTo 39 [a0, a1, vI x, a3] st mem = ev X m_X3_broughtTo 42 [a0, a1, vI (w32 (x + 1)), a3] st mem := ke_iinc rfl (Nat.le_of_ble_eq_true rfl) rfl dX3_broughtTo_39
theorem eX3_broughtTo_42 : ev X m_X3_broughtTo 42 [a0, a1, a2, vI x] st mem = ev X m_X3_broughtTo 45 [a0, a1, a2, vI (w32 (x + 1))] st mem := ke_iinc rfl (Nat.le_of_ble_eq_true rfl) rfl dX3_broughtTo_42
theorem eX3_broughtTo_45 : ev X m_X3_broughtTo 45 [a0, a1, a2, a3] st mem = ev X m_X3_broughtTo 4 [a0, a1, a2, a3] st mem := ke_goto dX3_broughtTo_45 rfl
theorem eX3_broughtTo_48 : ev X m_X3_broughtTo 48 [a0, a1, vI x, a3] st mem = ev X m_X3_broughtTo 49 [a0, a1, vI x, a3] (vI x :: st) mem := ke_iload_n rfl dX3_broughtTo_48
theorem eX3_broughtTo_49 : ev X m_X3_broughtTo 49 [a0, a1, a2, a3] [vI x] mem = some (some (vI x), mem) := ke_ireturn dX3_broughtTo_49 rfl
theorem eX4_snow_0 : ev X m_X4_snow 0 [vR r, a1, a2, a3, a4, a5, a6, a7] st mem = ev X m_X4_snow 1 [vR r, a1, a2, a3, a4, a5, a6, a7] (vR r :: st) mem := ke_aload_n rfl dX4_snow_0
theorem eX4_snow_1 : ev X m_X4_snow 1 [a0, a1, a2, a3, a4, a5, a6, a7] (vR r :: st) mem = evb X (fget mem r 4 0) m_X4_snow 4 [a0, a1, a2, a3, a4, a5, a6, a7] st mem := ke_getf rfl dX4_snow_1
theorem eX4_snow_4 : ev X m_X4_snow 4 [a0, vI x, a2, a3, a4, a5, a6, a7] st mem = ev X m_X4_snow 5 [a0, vI x, a2, a3, a4, a5, a6, a7] (vI x :: st) mem := ke_iload_n rfl dX4_snow_4
theorem eX4_snow_5 : ev X m_X4_snow 5 [a0, a1, a2, a3, a4, a5, a6, a7] (vI n0 :: vR r :: []) mem = evc X (gR mem r 0 (ev X m_X0_hasParcel 0 [vR r, vI n0] [] mem)) m_X4_snow 8 [a0, a1, a2, a3, a4, a5, a6, a7] [] := ke_callV (m' := m_X0_hasParcel) (as := [vI n0]) (n := 1) (rest := []) dX4_snow_5 rfl rfl rfl rfl rfl rfl (Nat.le_of_ble_eq_true rfl) (Nat.le_of_ble_eq_true rfl) (Nat.le_of_ble_eq_true rfl) rfl
theorem eX4_snow_8 : ev X m_X4_snow 8 [a0, a1, a2, a3, a4, a5, a6, a7] (vI x :: st) mem = if x = 0 then ev X m_X4_snow 11 [a0, a1, a2, a3, a4, a5, a6, a7] st mem else ev X m_X4_snow 17 [a0, a1, a2, a3, a4, a5, a6, a7] st mem := ke_if_ne dX4_snow_8 rfl
theorem eX4_snow_11 : ev X m_X4_snow 11 [vR r, a1, a2, a3, a4, a5, a6, a7] st mem = ev X m_X4_snow 12 [vR r, a1, a2, a3, a4, a5, a6, a7] (vR r :: st) mem := ke_aload_n rfl dX4_snow_11
theorem eX4_snow_12 : ev X m_X4_snow 12 [a0, a1, a2, a3, a4, a5, a6, a7] st mem = ev X m_X4_snow 13 [a0, a1, a2, a3, a4, a5, a6, a7] (vI (-1) :: st) mem := ke_iconst (by decide) dX4_snow_12
theorem eX4_snow_13 : ev X m_X4_snow 13 [a0, a1, a2, a3, a4, a5, a6, a7] (vI n0 :: vR r :: []) mem = evc X (gR mem r 4 (ev X m_X4_refuseLong 0 [vR r, vI n0] [] mem)) m_X4_snow 16 [a0, a1, a2, a3, a4, a5, a6, a7] [] := ke_callV (m' := m_X4_refuseLong) (as := [vI n0]) (n := 1) (rest := []) dX4_snow_13 rfl rfl rfl rfl rfl rfl (Nat.le_of_ble_eq_true rfl) (Nat.le_of_ble_eq_true rfl) (Nat.le_of_ble_eq_true rfl) rfl
theorem eX4_snow_16 : ev X m_X4_snow 16 [a0, a1, a2, a3, a4, a5, a6, a7] [vL x] mem = some (some (vL x), mem) := ke_lreturn dX4_snow_16 rfl
theorem eX4_snow_17 : ev X m_X4_snow 17 [a0, a1, vI x, a3, a4, a5, a6, a7] st mem = ev X m_X4_snow 18 [a0, a1, vI x, a3, a4, a5, a6, a7] (vI x :: st) mem := ke_iload_n rfl dX4_snow_17
theorem eX4_snow_18 : ev X m_X4_snow 18 [a0, a1, a2, a3, a4, a5, a6, a7] (vI x :: st) mem = if x < 0 then ev X m_X4_snow 26 [a0, a1, a2, a3, a4, a5, a6, a7] st mem else ev X m_X4_snow 21 [a0, a1, a2, a3, a4, a5, a6, a7] st mem := ke_if_lt dX4_snow_18 rfl
theorem eX4_snow_21 : ev X m_X4_snow 21 [a0, a1, a2, vI x, a4, a5, a6, a7] st mem = ev X m_X4_snow 22 [a0, a1, a2, vI x, a4, a5, a6, a7] (vI x :: st) mem := ke_iload_n rfl dX4_snow_21
theorem eX4_snow_22 : ev X m_X4_snow 22 [a0, a1, a2, a3, a4, a5, a6, a7] st mem = ev X m_X4_snow 23 [a0, a1, a2, a3, a4, a5, a6, a7] (vI 2 :: st) mem := ke_iconst (by decide) dX4_snow_22
theorem eX4_snow_23 : ev X m_X4_snow 23 [a0, a1, a2, a3, a4, a5, a6, a7] (vI y :: vI x :: st) mem = if x < y then ev X m_X4_snow 26 [a0, a1, a2, a3, a4, a5, a6, a7] st mem else ev X m_X4_snow 33 [a0, a1, a2, a3, a4, a5, a6, a7] st mem := ke_icmp_ge dX4_snow_23 rfl
theorem eX4_snow_26 : ev X m_X4_snow 26 [vR r, a1, a2, a3, a4, a5, a6, a7] st mem = ev X m_X4_snow 27 [vR r, a1, a2, a3, a4, a5, a6, a7] (vR r :: st) mem := ke_aload_n rfl dX4_snow_26
theorem eX4_snow_27 : ev X m_X4_snow 27 [a0, a1, a2, a3, a4, a5, a6, a7] st mem = ev X m_X4_snow 29 [a0, a1, a2, a3, a4, a5, a6, a7] (vI (-4) :: st) mem := ke_bipush (by decide) dX4_snow_27
theorem eX4_snow_29 : ev X m_X4_snow 29 [a0, a1, a2, a3, a4, a5, a6, a7] (vI n0 :: vR r :: []) mem = evc X (gR mem r 4 (ev X m_X4_refuseLong 0 [vR r, vI n0] [] mem)) m_X4_snow 32 [a0, a1, a2, a3, a4, a5, a6, a7] [] := ke_callV (m' := m_X4_refuseLong) (as := [vI n0]) (n := 1) (rest := []) dX4_snow_29 rfl rfl rfl rfl rfl rfl (Nat.le_of_ble_eq_true rfl) (Nat.le_of_ble_eq_true rfl) (Nat.le_of_ble_eq_true rfl) rfl
theorem eX4_snow_32 : ev X m_X4_snow 32 [a0, a1, a2, a3, a4, a5, a6, a7] [vL x] mem = some (some (vL x), mem) := ke_lreturn dX4_snow_32 rfl
theorem eX4_snow_33 : ev X m_X4_snow 33 [a0, a1, vI x, a3, a4, a5, a6, a7] st mem = ev X m_X4_snow 34 [a0, a1, vI x, a3, a4, a5, a6, a7] (vI x :: st) mem := ke_iload_n rfl dX4_snow_33
theorem eX4_snow_34 : ev X m_X4_snow 34 [a0, a1, a2, a3, a4, a5, a6, a7] st mem = ev X m_X4_snow 36 [a0, a1, a2, a3, a4, a5, a6, a7] (vI 7 :: st) mem := ke_bipush (by decide) dX4_snow_34
theorem eX4_snow_36 : ev X m_X4_snow 36 [a0, a1, a2, a3, a4, a5, a6, a7] (vI y :: vI x :: st) mem = if y < x then ev X m_X4_snow 45 [a0, a1, a2, a3, a4, a5, a6, a7] st mem else ev X m_X4_snow 39 [a0, a1, a2, a3, a4, a5, a6, a7] st mem := ke_icmp_gt dX4_snow_36 rfl
theorem eX4_snow_39 : ev X m_X4_snow 39 [a0, a1, a2, vI x, a4, a5, a6, a7] st mem = ev X m_X4_snow 40 [a0, a1, a2, vI x, a4, a5, a6, a7] (vI x :: st) mem := ke_iload_n rfl dX4_snow_39
theorem eX4_snow_40 : ev X m_X4_snow 40 [a0, a1, a2, a3, a4, a5, a6, a7] st mem = ev X m_X4_snow 42 [a0, a1, a2, a3, a4, a5, a6, a7] (vI 20 :: st) mem := ke_bipush (by decide) dX4_snow_40
theorem eX4_snow_42 : ev X m_X4_snow 42 [a0, a1, a2, a3, a4, a5, a6, a7] (vI y :: vI x :: st) mem = if y < x then ev X m_X4_snow 45 [a0, a1, a2, a3, a4, a5, a6, a7] st mem else ev X m_X4_snow 52 [a0, a1, a2, a3, a4, a5, a6, a7] st mem := ke_icmp_le dX4_snow_42 rfl
theorem eX4_snow_45 : ev X m_X4_snow 45 [vR r, a1, a2, a3, a4, a5, a6, a7] st mem = ev X m_X4_snow 46 [vR r, a1, a2, a3, a4, a5, a6, a7] (vR r :: st) mem := ke_aload_n rfl dX4_snow_45
theorem eX4_snow_46 : ev X m_X4_snow 46 [a0, a1, a2, a3, a4, a5, a6, a7] st mem = ev X m_X4_snow 48 [a0, a1, a2, a3, a4, a5, a6, a7] (vI (-6) :: st) mem := ke_bipush (by decide) dX4_snow_46
theorem eX4_snow_48 : ev X m_X4_snow 48 [a0, a1, a2, a3, a4, a5, a6, a7] (vI n0 :: vR r :: []) mem = evc X (gR mem r 4 (ev X m_X4_refuseLong 0 [vR r, vI n0] [] mem)) m_X4_snow 51 [a0, a1, a2, a3, a4, a5, a6, a7] [] := ke_callV (m' := m_X4_refuseLong) (as := [vI n0]) (n := 1) (rest := []) dX4_snow_48 rfl rfl rfl rfl rfl rfl (Nat.le_of_ble_eq_true rfl) (Nat.le_of_ble_eq_true rfl) (Nat.le_of_ble_eq_true rfl) rfl
theorem eX4_snow_51 : ev X m_X4_snow 51 [a0, a1, a2, a3, a4, a5, a6, a7] [vL x] mem = some (some (vL x), mem) := ke_lreturn dX4_snow_51 rfl
theorem eX4_snow_52 : ev X m_X4_snow 52 [a0, a1, a2, a3, vI x, a5, a6, a7] st mem = ev X m_X4_snow 54 [a0, a1, a2, a3, vI x, a5, a6, a7] (vI x :: st) mem := ke_iload rfl dX4_snow_52
theorem eX4_snow_54 : ev X m_X4_snow 54 [a0, a1, a2, a3, a4, a5, a6, a7] (vI x :: st) mem = if x < 0 then ev X m_X4_snow 63 [a0, a1, a2, a3, a4, a5, a6, a7] st mem else ev X m_X4_snow 57 [a0, a1, a2, a3, a4, a5, a6, a7] st mem := ke_if_lt dX4_snow_54 rfl
theorem eX4_snow_57 : ev X m_X4_snow 57 [a0, a1, a2, a3, vI x, a5, a6, a7] st mem = ev X m_X4_snow 59 [a0, a1, a2, a3, vI x, a5, a6, a7] (vI x :: st) mem := ke_iload rfl dX4_snow_57
theorem eX4_snow_59 : ev X m_X4_snow 59 [a0, a1, a2, a3, a4, a5, a6, a7] st mem = ev X m_X4_snow 60 [a0, a1, a2, a3, a4, a5, a6, a7] (vI 1 :: st) mem := ke_iconst (by decide) dX4_snow_59
theorem eX4_snow_60 : ev X m_X4_snow 60 [a0, a1, a2, a3, a4, a5, a6, a7] (vI y :: vI x :: st) mem = if y < x then ev X m_X4_snow 63 [a0, a1, a2, a3, a4, a5, a6, a7] st mem else ev X m_X4_snow 70 [a0, a1, a2, a3, a4, a5, a6, a7] st mem := ke_icmp_le dX4_snow_60 rfl
theorem eX4_snow_63 : ev X m_X4_snow 63 [vR r, a1, a2, a3, a4, a5, a6, a7] st mem = ev X m_X4_snow 64 [vR r, a1, a2, a3, a4, a5, a6, a7] (vR r :: st) mem := ke_aload_n rfl dX4_snow_63
theorem eX4_snow_64 : ev X m_X4_snow 64 [a0, a1, a2, a3, a4, a5, a6, a7] st mem = ev X m_X4_snow 66 [a0, a1, a2, a3, a4, a5, a6, a7] (vI (-2) :: st) mem := ke_bipush (by decide) dX4_snow_64
theorem eX4_snow_66 : ev X m_X4_snow 66 [a0, a1, a2, a3, a4, a5, a6, a7] (vI n0 :: vR r :: []) mem = evc X (gR mem r 4 (ev X m_X4_refuseLong 0 [vR r, vI n0] [] mem)) m_X4_snow 69 [a0, a1, a2, a3, a4, a5, a6, a7] [] := ke_callV (m' := m_X4_refuseLong) (as := [vI n0]) (n := 1) (rest := []) dX4_snow_66 rfl rfl rfl rfl rfl rfl (Nat.le_of_ble_eq_true rfl) (Nat.le_of_ble_eq_true rfl) (Nat.le_of_ble_eq_true rfl) rfl
theorem eX4_snow_69 : ev X m_X4_snow 69 [a0, a1, a2, a3, a4, a5, a6, a7] [vL x] mem = some (some (vL x), mem) := ke_lreturn dX4_snow_69 rfl
theorem eX4_snow_70 : ev X m_X4_snow 70 [a0, a1, a2, a3, a4, a5, a6, a7] st mem = ev X m_X4_snow 71 [a0, a1, a2, a3, a4, a5, a6, a7] (vL 1 :: st) mem := ke_lconst rfl dX4_snow_70
theorem eX4_snow_71 : ev X m_X4_snow 71 [a0, a1, a2, a3, a4, a5, a6, a7] (vL x :: st) mem = ev X m_X4_snow 73 [a0, a1, a2, a3, a4, vL x, vS, a7] st mem := ke_lstore (Nat.le_of_ble_eq_true rfl) rfl dX4_snow_71
theorem eX4_snow_73 : ev X m_X4_snow 73 [a0, a1, a2, a3, a4, a5, a6, a7] st mem = ev X m_X4_snow 74 [a0, a1, a2, a3, a4, a5, a6, a7] (vI 0 :: st) mem := ke_iconst (by decide) dX4_snow_73
theorem eX4_snow_74 : ev X m_X4_snow 74 [a0, a1, a2, a3, a4, a5, a6, a7] (vI x :: st) mem = ev X m_X4_snow 76 [a0, a1, a2, a3, a4, a5, a6, vI x] st mem := ke_istore (Nat.le_of_ble_eq_true rfl) rfl dX4_snow_74
theorem eX4_snow_76 : ev X m_X4_snow 76 [a0, a1, a2, a3, a4, a5, a6, vI x] st mem = ev X m_X4_snow 78 [a0, a1, a2, a3, a4, a5, a6, vI x] (vI x :: st) mem := ke_iload rfl dX4_snow_76
theorem eX4_snow_78 : ev X m_X4_snow 78 [a0, a1, vI x, a3, a4, a5, a6, a7] st mem = ev X m_X4_snow 79 [a0, a1, vI x, a3, a4, a5, a6, a7] (vI x :: st) mem := ke_iload_n rfl dX4_snow_78
theorem eX4_snow_79 : ev X m_X4_snow 79 [a0, a1, a2, a3, a4, a5, a6, a7] (vI y :: vI x :: st) mem = if x < y then ev X m_X4_snow 82 [a0, a1, a2, a3, a4, a5, a6, a7] st mem else ev X m_X4_snow 95 [a0, a1, a2, a3, a4, a5, a6, a7] st mem := ke_icmp_ge dX4_snow_79 rfl
theorem eX4_snow_82 : ev X m_X4_snow 82 [a0, a1, a2, a3, a4, vL x, vS, a7] st mem = ev X m_X4_snow 84 [a0, a1, a2, a3, a4, vL x, vS, a7] (vL x :: st) mem := ke_lload rfl rfl dX4_snow_82
theorem eX4_snow_84 : ev X m_X4_snow 84 [a0, a1, a2, vI x, a4, a5, a6, a7] st mem = ev X m_X4_snow 85 [a0, a1, a2, vI x, a4, a5, a6, a7] (vI x :: st) mem := ke_iload_n rfl dX4_snow_84
theorem eX4_snow_85 : ev X m_X4_snow 85 [a0, a1, a2, a3, a4, a5, a6, a7] (vI x :: st) mem = ev X m_X4_snow 86 [a0, a1, a2, a3, a4, a5, a6, a7] (vL x :: st) mem := ke_i2l dX4_snow_85
theorem eX4_snow_86 : ev X m_X4_snow 86 [a0, a1, a2, a3, a4, a5, a6, a7] (vL y :: vL x :: st) mem = ev X m_X4_snow 87 [a0, a1, a2, a3, a4, a5, a6, a7] (vL (w64 (x * y)) :: st) mem := ke_lmul dX4_snow_86
theorem eX4_snow_87 : ev X m_X4_snow 87 [a0, a1, a2, a3, a4, a5, a6, a7] (vL x :: st) mem = ev X m_X4_snow 89 [a0, a1, a2, a3, a4, vL x, vS, a7] st mem := ke_lstore (Nat.le_of_ble_eq_true rfl) rfl dX4_snow_87
theorem eX4_snow_89 : ev X m_X4_snow 89 [a0, a1, a2, a3, a4, a5, a6, vI x] st mem = ev X m_X4_snow 92 [a0, a1, a2, a3, a4, a5, a6, vI (w32 (x + 1))] st mem := ke_iinc rfl (Nat.le_of_ble_eq_true rfl) rfl dX4_snow_89
theorem eX4_snow_92 : ev X m_X4_snow 92 [a0, a1, a2, a3, a4, a5, a6, a7] st mem = ev X m_X4_snow 76 [a0, a1, a2, a3, a4, a5, a6, a7] st mem := ke_goto dX4_snow_92 rfl
theorem eX4_snow_95 : ev X m_X4_snow 95 [vR r, a1, a2, a3, a4, a5, a6, a7] st mem = ev X m_X4_snow 96 [vR r, a1, a2, a3, a4, a5, a6, a7] (vR r :: st) mem := ke_aload_n rfl dX4_snow_95
theorem eX4_snow_96 : ev X m_X4_snow 96 [a0, a1, a2, a3, a4, a5, a6, a7] (vR r :: st) mem = evb X (fget mem r 4 3) m_X4_snow 99 [a0, a1, a2, a3, a4, a5, a6, a7] st mem := ke_getf rfl dX4_snow_96
theorem eX4_snow_99 : ev X m_X4_snow 99 [vR r, a1, a2, a3, a4, a5, a6, a7] st mem = ev X m_X4_snow 100 [vR r, a1, a2, a3, a4, a5, a6, a7] (vR r :: st) mem := ke_aload_n rfl dX4_snow_99
theorem eX4_snow_100 : ev X m_X4_snow 100 [a0, a1, a2, a3, a4, a5, a6, a7] (vR r :: st) mem = evb X (fget mem r 4 0) m_X4_snow 103 [a0, a1, a2, a3, a4, a5, a6, a7] st mem := ke_getf rfl dX4_snow_100
theorem eX4_snow_103 : ev X m_X4_snow 103 [a0, vI x, a2, a3, a4, a5, a6, a7] st mem = ev X m_X4_snow 104 [a0, vI x, a2, a3, a4, a5, a6, a7] (vI x :: st) mem := ke_iload_n rfl dX4_snow_103
theorem eX4_snow_104 : ev X m_X4_snow 104 [a0, a1, vI x, a3, a4, a5, a6, a7] st mem = ev X m_X4_snow 105 [a0, a1, vI x, a3, a4, a5, a6, a7] (vI x :: st) mem := ke_iload_n rfl dX4_snow_104
theorem eX4_snow_105 : ev X m_X4_snow 105 [a0, a1, a2, vI x, a4, a5, a6, a7] st mem = ev X m_X4_snow 106 [a0, a1, a2, vI x, a4, a5, a6, a7] (vI x :: st) mem := ke_iload_n rfl dX4_snow_105
theorem eX4_snow_106 : ev X m_X4_snow 106 [a0, a1, a2, a3, a4, a5, a6, a7] (vI n3 :: vI n2 :: vI n1 :: vR r0 :: vR r :: []) mem = evc X (gR mem r 3 (ev X m_X3_broughtOfAll 0 [vR r, vR r0, vI n1, vI n2, vI n3, vS, vS, vS, vS, vS, vS, vS] [] mem)) m_X4_snow 109 [a0, a1, a2, a3, a4, a5, a6, a7] [] := ke_callV (m' := m_X3_broughtOfAll) (as := [vR r0, vI n1, vI n2, vI n3]) (n := 4) (rest := []) dX4_snow_106 rfl rfl rfl rfl rfl rfl (Nat.le_of_ble_eq_true rfl) (Nat.le_of_ble_eq_true rfl) (Nat.le_of_ble_eq_true rfl) rfl
theorem eX4_snow_109 : ev X m_X4_snow 109 [a0, a1, a2, a3, a4, vL x, vS, a7] st mem = ev X m_X4_snow 111 [a0, a1, a2, a3, a4, vL x, vS, a7] (vL x :: st) mem := ke_lload rfl rfl dX4_snow_109
theorem eX4_snow_111 : ev X m_X4_snow 111 [a0, a1, a2, a3, vI x, a5, a6, a7] st mem = ev X m_X4_snow 113 [a0, a1, a2, a3, vI x, a5, a6, a7] (vI x :: st) mem := ke_iload rfl dX4_snow_111
theorem eX4_snow_113 : ev X m_X4_snow 113 [a0, a1, a2, a3, a4, a5, a6, a7] (vI n2 :: vL n1 :: vL n0 :: []) mem = evc X (ev X m_X4_partOf 0 [vL n0, vS, vL n1, vS, vI n2, vS, vS] [] mem) m_X4_snow 116 [a0, a1, a2, a3, a4, a5, a6, a7] [] := ke_callS (m' := m_X4_partOf) (as := [vL n0, vL n1, vI n2]) (n := 3) (rest := []) dX4_snow_113 rfl (by decide) rfl rfl rfl rfl rfl (Nat.le_of_ble_eq_true rfl) (Nat.le_of_ble_eq_true rfl) rfl
theorem eX4_snow_116 : ev X m_X4_snow 116 [a0, a1, a2, a3, a4, a5, a6, a7] [vL x] mem = some (some (vL x), mem) := ke_lreturn dX4_snow_116 rfl
theorem eX4_refuseLong_0 : ev X m_X4_refuseLong 0 [a0, a1] st mem = ev X m_X4_refuseLong 3 [a0, a1] (vL 4000000000000000000 :: st) mem := ke_ldc2 (n := 4000000000000000000) rfl (by decide) dX4_refuseLong_0
theorem eX4_refuseLong_3 : ev X m_X4_refuseLong 3 [vR r, a1] st mem = ev X m_X4_refuseLong 4 [vR r, a1] (vR r :: st) mem := ke_aload_n rfl dX4_refuseLong_3
theorem eX4_refuseLong_4 : ev X m_X4_refuseLong 4 [a0, vI x] st mem = ev X m_X4_refuseLong 5 [a0, vI x] (vI x :: st) mem := ke_iload_n rfl dX4_refuseLong_4
theorem eX4_refuseLong_5 : ev X m_X4_refuseLong 5 [a0, a1] (vI n0 :: vR r :: [s0]) mem = evc X (gR mem r 4 (ev X m_X4_refuse 0 [vR r, vI n0] [] mem)) m_X4_refuseLong 8 [a0, a1] [s0] := ke_callV (m' := m_X4_refuse) (as := [vI n0]) (n := 1) (rest := [s0]) dX4_refuseLong_5 rfl rfl rfl rfl rfl rfl (Nat.le_of_ble_eq_true rfl) (Nat.le_of_ble_eq_true rfl) (Nat.le_of_ble_eq_true rfl) rfl
theorem eX4_refuseLong_8 : ev X m_X4_refuseLong 8 [a0, a1] (vI x :: st) mem = ev X m_X4_refuseLong 9 [a0, a1] (vL x :: st) mem := ke_i2l dX4_refuseLong_8
theorem eX4_refuseLong_9 : ev X m_X4_refuseLong 9 [a0, a1] (vL y :: vL x :: st) mem = ev X m_X4_refuseLong 10 [a0, a1] (vL (w64 (x - y)) :: st) mem := ke_lsub dX4_refuseLong_9
theorem eX4_refuseLong_10 : ev X m_X4_refuseLong 10 [a0, a1] [vL x] mem = some (some (vL x), mem) := ke_lreturn dX4_refuseLong_10 rfl
theorem eX3_broughtOfAll_0 : ev X m_X3_broughtOfAll 0 [a0, a1, a2, a3, a4, a5, a6, a7, a8, a9, a10, a11] st mem = ev X m_X3_broughtOfAll 1 [a0, a1, a2, a3, a4, a5, a6, a7, a8, a9, a10, a11] (vL 0 :: st) mem := ke_lconst rfl dX3_broughtOfAll_0
theorem eX3_broughtOfAll_1 : ev X m_X3_broughtOfAll 1 [a0, a1, a2, a3, a4, a5, a6, a7, a8, a9, a10, a11] (vL x :: st) mem = ev X m_X3_broughtOfAll 3 [a0, a1, a2, a3, a4, vL x, vS, a7, a8, a9, a10, a11] st mem := ke_lstore (Nat.le_of_ble_eq_true rfl) rfl dX3_broughtOfAll_1
theorem eX3_broughtOfAll_3 : ev X m_X3_broughtOfAll 3 [a0, a1, a2, a3, a4, a5, a6, a7, a8, a9, a10, a11] st mem = ev X m_X3_broughtOfAll 4 [a0, a1, a2, a3, a4, a5, a6, a7, a8, a9, a10, a11] (vI 0 :: st) mem := ke_iconst (by decide) dX3_broughtOfAll_3
theorem eX3_broughtOfAll_4 : ev X m_X3_broughtOfAll 4 [a0, a1, a2, a3, a4, a5, a6, a7, a8, a9, a10, a11] (vI x :: st) mem = ev X m_X3_broughtOfAll 6 [a0, a1, a2, a3, a4, a5, a6, vI x, a8, a9, a10, a11] st mem := ke_istore (Nat.le_of_ble_eq_true rfl) rfl dX3_broughtOfAll_4
theorem eX3_broughtOfAll_6 : ev X m_X3_broughtOfAll 6 [a0, a1, a2, a3, a4, a5, a6, vI x, a8, a9, a10, a11] st mem = ev X m_X3_broughtOfAll 8 [a0, a1, a2, a3, a4, a5, a6, vI x, a8, a9, a10, a11] (vI x :: st) mem := ke_iload rfl dX3_broughtOfAll_6
theorem eX3_broughtOfAll_8 : ev X m_X3_broughtOfAll 8 [a0, a1, a2, a3, a4, a5, a6, a7, a8, a9, a10, a11] st mem = ev X m_X3_broughtOfAll 9 [a0, a1, a2, a3, a4, a5, a6, a7, a8, a9, a10, a11] (vI 1 :: st) mem := ke_iconst (by decide) dX3_broughtOfAll_8
theorem eX3_broughtOfAll_9 : ev X m_X3_broughtOfAll 9 [a0, a1, a2, vI x, a4, a5, a6, a7, a8, a9, a10, a11] st mem = ev X m_X3_broughtOfAll 10 [a0, a1, a2, vI x, a4, a5, a6, a7, a8, a9, a10, a11] (vI x :: st) mem := ke_iload_n rfl dX3_broughtOfAll_9
theorem eX3_broughtOfAll_10 : ev X m_X3_broughtOfAll 10 [a0, a1, a2, a3, a4, a5, a6, a7, a8, a9, a10, a11] (vI y :: vI x :: st) mem = ev X m_X3_broughtOfAll 11 [a0, a1, a2, a3, a4, a5, a6, a7, a8, a9, a10, a11] (vI (shl32 x y) :: st) mem := ke_ishl dX3_broughtOfAll_10
theorem eX3_broughtOfAll_11 : ev X m_X3_broughtOfAll 11 [a0, a1, a2, a3, a4, a5, a6, a7, a8, a9, a10, a11] (vI y :: vI x :: st) mem = if x < y then ev X m_X3_broughtOfAll 14 [a0, a1, a2, a3, a4, a5, a6, a7, a8, a9, a10, a11] st mem else ev X m_X3_broughtOfAll 111 [a0, a1, a2, a3, a4, a5, a6, a7, a8, a9, a10, a11] st mem := ke_icmp_ge dX3_broughtOfAll_11 rfl
theorem eX3_broughtOfAll_14 : ev X m_X3_broughtOfAll 14 [vR r, a1, a2, a3, a4, a5, a6, a7, a8, a9, a10, a11] st mem = ev X m_X3_broughtOfAll 15 [vR r, a1, a2, a3, a4, a5, a6, a7, a8, a9, a10, a11] (vR r :: st) mem := ke_aload_n rfl dX3_broughtOfAll_14
theorem eX3_broughtOfAll_15 : ev X m_X3_broughtOfAll 15 [a0, a1, a2, a3, a4, a5, a6, a7, a8, a9, a10, a11] (vR r :: st) mem = evb X (fget mem r 3 0) m_X3_broughtOfAll 18 [a0, a1, a2, a3, a4, a5, a6, a7, a8, a9, a10, a11] st mem := ke_getf rfl dX3_broughtOfAll_15
theorem eX3_broughtOfAll_18 : ev X m_X3_broughtOfAll 18 [a0, vR r, a2, a3, a4, a5, a6, a7, a8, a9, a10, a11] st mem = ev X m_X3_broughtOfAll 19 [a0, vR r, a2, a3, a4, a5, a6, a7, a8, a9, a10, a11] (vR r :: st) mem := ke_aload_n rfl dX3_broughtOfAll_18
theorem eX3_broughtOfAll_19 : ev X m_X3_broughtOfAll 19 [a0, a1, a2, a3, a4, a5, a6, a7, a8, a9, a10, a11] (vR r0 :: vR r :: []) mem = evc X (gR mem r 0 (ev X m_X0_become 0 [vR r, vR r0] [] mem)) m_X3_broughtOfAll 22 [a0, a1, a2, a3, a4, a5, a6, a7, a8, a9, a10, a11] [] := ke_callV (m' := m_X0_become) (as := [vR r0]) (n := 1) (rest := []) dX3_broughtOfAll_19 rfl rfl rfl rfl rfl rfl (Nat.le_of_ble_eq_true rfl) (Nat.le_of_ble_eq_true rfl) (Nat.le_of_ble_eq_true rfl) rfl
theorem eX3_broughtOfAll_22 : ev X m_X3_broughtOfAll 22 [a0, a1, a2, a3, a4, a5, a6, a7, a8, a9, a10, a11] st mem = ev X m_X3_broughtOfAll 23 [a0, a1, a2, a3, a4, a5, a6, a7, a8, a9, a10, a11] (vL 1 :: st) mem := ke_lconst rfl dX3_broughtOfAll_22
theorem eX3_broughtOfAll_23 : ev X m_X3_broughtOfAll 23 [a0, a1, a2, a3, a4, a5, a6, a7, a8, a9, a10, a11] (vL x :: st) mem = ev X m_X3_broughtOfAll 25 [a0, a1, a2, a3, a4, a5, a6, a7, vL x, vS, a10, a11] st mem := ke_lstore (Nat.le_of_ble_eq_true rfl) rfl dX3_broughtOfAll_23
theorem eX3_broughtOfAll_25 : ev X m_X3_broughtOfAll 25 [a0, a1, a2, a3, a4, a5, a6, a7, a8, a9, a10, a11] st mem = ev X m_X3_broughtOfAll 26 [a0, a1, a2, a3, a4, a5, a6, a7, a8, a9, a10, a11] (vI 0 :: st) mem := ke_iconst (by decide) dX3_broughtOfAll_25
theorem eX3_broughtOfAll_26 : ev X m_X3_broughtOfAll 26 [a0, a1, a2, a3, a4, a5, a6, a7, a8, a9, a10, a11] (vI x :: st) mem = ev X m_X3_broughtOfAll 28 [a0, a1, a2, a3, a4, a5, a6, a7, a8, a9, vI x, a11] st mem := ke_istore (Nat.le_of_ble_eq_true rfl) rfl dX3_broughtOfAll_26
theorem eX3_broughtOfAll_28 : ev X m_X3_broughtOfAll 28 [a0, a1, a2, a3, a4, a5, a6, a7, a8, a9, vI x, a11] st mem = ev X m_X3_broughtOfAll 30 [a0, a1, a2, a3, a4, a5, a6, a7, a8, a9, vI x, a11] (vI x :: st) mem := ke_iload rfl dX3_broughtOfAll_28
theorem eX3_broughtOfAll_30 : ev X m_X3_broughtOfAll 30 [a0, a1, a2, vI x, a4, a5, a6, a7, a8, a9, a10, a11] st mem = ev X m_X3_broughtOfAll 31 [a0, a1, a2, vI x, a4, a5, a6, a7, a8, a9, a10, a11] (vI x :: st) mem := ke_iload_n rfl dX3_broughtOfAll_30
theorem eX3_broughtOfAll_31 : ev X m_X3_broughtOfAll 31 [a0, a1, a2, a3, a4, a5, a6, a7, a8, a9, a10, a11] (vI y :: vI x :: st) mem = if x < y then ev X m_X3_broughtOfAll 34 [a0, a1, a2, a3, a4, a5, a6, a7, a8, a9, a10, a11] st mem else ev X m_X3_broughtOfAll 86 [a0, a1, a2, a3, a4, a5, a6, a7, a8, a9, a10, a11] st mem := ke_icmp_ge dX3_broughtOfAll_31 rfl
theorem eX3_broughtOfAll_34 : ev X m_X3_broughtOfAll 34 [a0, a1, a2, a3, a4, a5, a6, vI x, a8, a9, a10, a11] st mem = ev X m_X3_broughtOfAll 36 [a0, a1, a2, a3, a4, a5, a6, vI x, a8, a9, a10, a11] (vI x :: st) mem := ke_iload rfl dX3_broughtOfAll_34
theorem eX3_broughtOfAll_36 : ev X m_X3_broughtOfAll 36 [a0, a1, a2, a3, a4, a5, a6, a7, a8, a9, vI x, a11] st mem = ev X m_X3_broughtOfAll 38 [a0, a1, a2, a3, a4, a5, a6, a7, a8, a9, vI x, a11] (vI x :: st) mem := ke_iload rfl dX3_broughtOfAll_36
theorem eX3_broughtOfAll_38 : ev X m_X3_broughtOfAll 38 [a0, a1, a2, a3, a4, a5, a6, a7, a8, a9, a10, a11] (vI y :: vI x :: st) mem = ev X m_X3_broughtOfAll 39 [a0, a1, a2, a3, a4, a5, a6, a7, a8, a9, a10, a11] (vI (shr32 x y) :: st) mem := ke_ishr dX3_broughtOfAll_38
theorem eX3_broughtOfAll_39 : ev X m_X3_broughtOfAll 39 [a0, a1, a2, a3, a4, a5, a6, a7, a8, a9, a10, a11] st mem = ev X m_X3_broughtOfAll 40 [a0, a1, a2, a3, a4, a5, a6, a7, a8, a9, a10, a11] (vI 1 :: st) mem := ke_iconst (by decide) dX3_broughtOfAll_39
theorem eX3_broughtOfAll_40 : ev X m_X3_broughtOfAll 40 [a0, a1, a2, a3, a4, a5, a6, a7, a8, a9, a10, a11] (vI y :: vI x :: st) mem = ev X m_X3_broughtOfAll 41 [a0, a1, a2, a3, a4, a5, a6, a7, a8, a9, a10, a11] (vI (and32 x y) :: st) mem := ke_iand dX3_broughtOfAll_40
theorem eX3_broughtOfAll_41 : ev X m_X3_broughtOfAll 41 [a0, a1, a2, a3, a4, a5, a6, a7, a8, a9, a10, a11] st mem = ev X m_X3_broughtOfAll 42 [a0, a1, a2, a3, a4, a5, a6, a7, a8, a9, a10, a11] (vI 1 :: st) mem := ke_iconst (by decide) dX3_broughtOfAll_41
theorem eX3_broughtOfAll_42 : ev X m_X3_broughtOfAll 42 [a0, a1, a2, a3, a4, a5, a6, a7, a8, a9, a10, a11] (vI y :: vI x :: st) mem = if x = y then ev X m_X3_broughtOfAll 45 [a0, a1, a2, a3, a4, a5, a6, a7, a8, a9, a10, a11] st mem else ev X m_X3_broughtOfAll 49 [a0, a1, a2, a3, a4, a5, a6, a7, a8, a9, a10, a11] st mem := ke_icmp_ne dX3_broughtOfAll_42 rfl
theorem eX3_broughtOfAll_45 : ev X m_X3_broughtOfAll 45 [a0, a1, a2, a3, a4, a5, a6, a7, a8, a9, a10, a11] st mem = ev X m_X3_broughtOfAll 46 [a0, a1, a2, a3, a4, a5, a6, a7, a8, a9, a10, a11] (vI 1 :: st) mem := ke_iconst (by decide) dX3_broughtOfAll_45
theorem eX3_broughtOfAll_46 : ev X m_X3_broughtOfAll 46 [a0, a1, a2, a3, a4, a5, a6, a7, a8, a9, a10, a11] st mem = ev X m_X3_broughtOfAll 50 [a0, a1, a2, a3, a4, a5, a6, a7, a8, a9, a10, a11] st mem := ke_goto dX3_broughtOfAll_46 rfl
theorem eX3_broughtOfAll_49 : ev X m_X3_broughtOfAll 49 [a0, a1, a2, a3, a4, a5, a6, a7, a8, a9, a10, a11] st mem = ev X m_X3_broughtOfAll 50 [a0, a1, a2, a3, a4, a5, a6, a7, a8, a9, a10, a11] (vI 0 :: st) mem := ke_iconst (by decide) dX3_broughtOfAll_49
theorem eX3_broughtOfAll_50 : ev X m_X3_broughtOfAll 50 [a0, a1, a2, a3, a4, a5, a6, a7, a8, a9, a10, a11] (vI x :: st) mem = ev X m_X3_broughtOfAll 52 [a0, a1, a2, a3, a4, a5, a6, a7, a8, a9, a10, vI x] st mem := ke_istore (Nat.le_of_ble_eq_true rfl) rfl dX3_broughtOfAll_50
theorem eX3_broughtOfAll_52 : ev X m_X3_broughtOfAll 52 [a0, a1, a2, a3, a4, a5, a6, a7, vL x, vS, a10, a11] st mem = ev X m_X3_broughtOfAll 54 [a0, a1, a2, a3, a4, a5, a6, a7, vL x, vS, a10, a11] (vL x :: st) mem := ke_lload rfl rfl dX3_broughtOfAll_52
theorem eX3_broughtOfAll_54 : ev X m_X3_broughtOfAll 54 [a0, a1, a2, a3, a4, a5, a6, a7, a8, a9, a10, vI x] st mem = ev X m_X3_broughtOfAll 56 [a0, a1, a2, a3, a4, a5, a6, a7, a8, a9, a10, vI x] (vI x :: st) mem := ke_iload rfl dX3_broughtOfAll_54
theorem eX3_broughtOfAll_56 : ev X m_X3_broughtOfAll 56 [a0, a1, a2, a3, a4, a5, a6, a7, a8, a9, a10, a11] (vI x :: st) mem = if x = 0 then ev X m_X3_broughtOfAll 63 [a0, a1, a2, a3, a4, a5, a6, a7, a8, a9, a10, a11] st mem else ev X m_X3_broughtOfAll 59 [a0, a1, a2, a3, a4, a5, a6, a7, a8, a9, a10, a11] st mem := ke_if_eq dX3_broughtOfAll_56 rfl
theorem eX3_broughtOfAll_59 : ev X m_X3_broughtOfAll 59 [a0, a1, a2, a3, a4, a5, a6, a7, a8, a9, a10, a11] st mem = ev X m_X3_broughtOfAll 60 [a0, a1, a2, a3, a4, a5, a6, a7, a8, a9, a10, a11] (vL 1 :: st) mem := ke_lconst rfl dX3_broughtOfAll_59
theorem eX3_broughtOfAll_60 : ev X m_X3_broughtOfAll 60 [a0, a1, a2, a3, a4, a5, a6, a7, a8, a9, a10, a11] st mem = ev X m_X3_broughtOfAll 68 [a0, a1, a2, a3, a4, a5, a6, a7, a8, a9, a10, a11] st mem := ke_goto dX3_broughtOfAll_60 rfl
theorem eX3_broughtOfAll_63 : ev X m_X3_broughtOfAll 63 [a0, a1, a2, a3, vI x, a5, a6, a7, a8, a9, a10, a11] st mem = ev X m_X3_broughtOfAll 65 [a0, a1, a2, a3, vI x, a5, a6, a7, a8, a9, a10, a11] (vI x :: st) mem := ke_iload rfl dX3_broughtOfAll_63
theorem eX3_broughtOfAll_65 : ev X m_X3_broughtOfAll 65 [a0, a1, a2, a3, a4, a5, a6, a7, a8, a9, a10, a11] st mem = ev X m_X3_broughtOfAll 66 [a0, a1, a2, a3, a4, a5, a6, a7, a8, a9, a10, a11] (vI 1 :: st) mem := ke_iconst (by decide) dX3_broughtOfAll_65
theorem eX3_broughtOfAll_66 : ev X m_X3_broughtOfAll 66 [a0, a1, a2, a3, a4, a5, a6, a7, a8, a9, a10, a11] (vI y :: vI x :: st) mem = ev X m_X3_broughtOfAll 67 [a0, a1, a2, a3, a4, a5, a6, a7, a8, a9, a10, a11] (vI (w32 (x - y)) :: st) mem := ke_isub dX3_broughtOfAll_66
theorem eX3_broughtOfAll_67 : ev X m_X3_broughtOfAll 67 [a0, a1, a2, a3, a4, a5, a6, a7, a8, a9, a10, a11] (vI x :: st) mem = ev X m_X3_broughtOfAll 68 [a0, a1, a2, a3, a4, a5, a6, a7, a8, a9, a10, a11] (vL x :: st) mem := ke_i2l dX3_broughtOfAll_67
theorem eX3_broughtOfAll_68 : ev X m_X3_broughtOfAll 68 [a0, a1, a2, a3, a4, a5, a6, a7, a8, a9, a10, a11] (vL y :: vL x :: st) mem = ev X m_X3_broughtOfAll 69 [a0, a1, a2, a3, a4, a5, a6, a7, a8, a9, a10, a11] (vL (w64 (x * y)) :: st) mem := ke_lmul dX3_broughtOfAll_68
theorem eX3_broughtOfAll_69 : ev X m_X3_broughtOfAll 69 [a0, a1, a2, a3, a4, a5, a6, a7, a8, a9, a10, a11] (vL x :: st) mem = ev X m_X3_broughtOfAll 71 [a0, a1, a2, a3, a4, a5, a6, a7, vL x, vS, a10, a11] st mem := ke_lstore (Nat.le_of_ble_eq_true rfl) rfl dX3_broughtOfAll_69
theorem eX3_broughtOfAll_71 : ev X m_X3_broughtOfAll 71 [vR r, a1, a2, a3, a4, a5, a6, a7, a8, a9, a10, a11] st mem = ev X m_X3_broughtOfAll 72 [vR r, a1, a2, a3, a4, a5, a6, a7, a8, a9, a10, a11] (vR r :: st) mem := ke_aload_n rfl dX3_broughtOfAll_71
theorem eX3_broughtOfAll_72 : ev X m_X3_broughtOfAll 72 [a0, a1, a2, a3, a4, a5, a6, a7, a8, a9, a10, a11] (vR r :: st) mem = evb X (fget mem r 3 0) m_X3_broughtOfAll 75 [a0, a1, a2, a3, a4, a5, a6, a7, a8, a9, a10, a11] st mem := ke_getf rfl dX3_broughtOfAll_72
theorem eX3_broughtOfAll_75 : ev X m_X3_broughtOfAll 75 [a0, a1, a2, a3, a4, a5, a6, a7, a8, a9, a10, vI x] st mem = ev X m_X3_broughtOfAll 77 [a0, a1, a2, a3, a4, a5, a6, a7, a8, a9, a10, vI x] (vI x :: st) mem := ke_iload rfl dX3_broughtOfAll_75
theorem eX3_broughtOfAll_77 : ev X m_X3_broughtOfAll 77 [a0, a1, a2, a3, a4, a5, a6, a7, a8, a9, a10, a11] (vI n0 :: vR r :: []) mem = evc X (gR mem r 0 (ev X m_X0_passDay 0 [vR r, vI n0] [] mem)) m_X3_broughtOfAll 80 [a0, a1, a2, a3, a4, a5, a6, a7, a8, a9, a10, a11] [] := ke_callV (m' := m_X0_passDay) (as := [vI n0]) (n := 1) (rest := []) dX3_broughtOfAll_77 rfl rfl rfl rfl rfl rfl (Nat.le_of_ble_eq_true rfl) (Nat.le_of_ble_eq_true rfl) (Nat.le_of_ble_eq_true rfl) rfl
theorem eX3_broughtOfAll_80 : ev X m_X3_broughtOfAll 80 [a0, a1, a2, a3, a4, a5, a6, a7, a8, a9, vI x, a11] st mem = ev X m_X3_broughtOfAll 83 [a0, a1, a2, a3, a4, a5, a6, a7, a8, a9, vI (w32 (x + 1)), a11] st mem := ke_iinc rfl (Nat.le_of_ble_eq_true rfl) rfl dX3_broughtOfAll_80
theorem eX3_broughtOfAll_83 : ev X m_X3_broughtOfAll 83 [a0, a1, a2, a3, a4, a5, a6, a7, a8, a9, a10, a11] st mem = ev X m_X3_broughtOfAll 28 [a0, a1, a2, a3, a4, a5, a6, a7, a8, a9, a10, a11] st mem := ke_goto dX3_broughtOfAll_83 rfl
theorem eX3_broughtOfAll_86 : ev X m_X3_broughtOfAll 86 [vR r, a1, a2, a3, a4, a5, a6, a7, a8, a9, a10, a11] st mem = ev X m_X3_broughtOfAll 87 [vR r, a1, a2, a3, a4, a5, a6, a7, a8, a9, a10, a11] (vR r :: st) mem := ke_aload_n rfl dX3_broughtOfAll_86
theorem eX3_broughtOfAll_87 : ev X m_X3_broughtOfAll 87 [a0, a1, a2, a3, a4, a5, a6, a7, a8, a9, a10, a11] (vR r :: st) mem = evb X (fget mem r 3 0) m_X3_broughtOfAll 90 [a0, a1, a2, a3, a4, a5, a6, a7, a8, a9, a10, a11] st mem := ke_getf rfl dX3_broughtOfAll_87
theorem eX3_broughtOfAll_90 : ev X m_X3_broughtOfAll 90 [a0, a1, vI x, a3, a4, a5, a6, a7, a8, a9, a10, a11] st mem = ev X m_X3_broughtOfAll 91 [a0, a1, vI x, a3, a4, a5, a6, a7, a8, a9, a10, a11] (vI x :: st) mem := ke_iload_n rfl dX3_broughtOfAll_90
theorem eX3_broughtOfAll_91 : ev X m_X3_broughtOfAll 91 [a0, a1, a2, a3, a4, a5, a6, a7, a8, a9, a10, a11] (vI n0 :: vR r :: []) mem = evc X (gR mem r 0 (ev X m_X0_stateOf 0 [vR r, vI n0] [] mem)) m_X3_broughtOfAll 94 [a0, a1, a2, a3, a4, a5, a6, a7, a8, a9, a10, a11] [] := ke_callV (m' := m_X0_stateOf) (as := [vI n0]) (n := 1) (rest := []) dX3_broughtOfAll_91 rfl rfl rfl rfl rfl rfl (Nat.le_of_ble_eq_true rfl) (Nat.le_of_ble_eq_true rfl) (Nat.le_of_ble_eq_true rfl) rfl
theorem eX3_broughtOfAll_94 : ev X m_X3_broughtOfAll 94 [a0, a1, a2, a3, a4, a5, a6, a7, a8, a9, a10, a11] st mem = ev X m_X3_broughtOfAll 95 [a0, a1, a2, a3, a4, a5, a6, a7, a8, a9, a10, a11] (vI 2 :: st) mem := ke_iconst (by decide) dX3_broughtOfAll_94
theorem eX3_broughtOfAll_95 : ev X m_X3_broughtOfAll 95 [a0, a1, a2, a3, a4, a5, a6, a7, a8, a9, a10, a11] (vI y :: vI x :: st) mem = if x = y then ev X m_X3_broughtOfAll 98 [a0, a1, a2, a3, a4, a5, a6, a7, a8, a9, a10, a11] st mem else ev X m_X3_broughtOfAll 105 [a0, a1, a2, a3, a4, a5, a6, a7, a8, a9, a10, a11] st mem := ke_icmp_ne dX3_broughtOfAll_95 rfl
theorem eX3_broughtOfAll_98 : ev X m_X3_broughtOfAll 98 [a0, a1, a2, a3, a4, vL x, vS, a7, a8, a9, a10, a11] st mem = ev X m_X3_broughtOfAll 100 [a0, a1, a2, a3, a4, vL x, vS, a7, a8, a9, a10, a11] (vL x :: st) mem := ke_lload rfl rfl dX3_broughtOfAll_98
theorem eX3_broughtOfAll_100 : ev X m_X3_broughtOfAll 100 [a0, a1, a2, a3, a4, a5, a6, a7, vL x, vS, a10, a11] st mem = ev X m_X3_broughtOfAll 102 [a0, a1, a2, a3, a4, a5, a6, a7, vL x, vS, a10, a11] (vL x :: st) mem := ke_lload rfl rfl dX3_broughtOfAll_100
theorem eX3_broughtOfAll_102 : ev X m_X3_broughtOfAll 102 [a0, a1, a2, a3, a4, a5, a6, a7, a8, a9, a10, a11] (vL y :: vL x :: st) mem = ev X m_X3_broughtOfAll 103 [a0, a1, a2, a3, a4, a5, a6, a7, a8, a9, a10, a11] (vL (w64 (x + y)) :: st) mem := ke_ladd dX3_broughtOfAll_102
theorem eX3_broughtOfAll_103 : ev X m_X3_broughtOfAll 103 [a0, a1, a2, a3, a4, a5, a6, a7, a8, a9, a10, a11] (vL x :: st) mem = ev X m_X3_broughtOfAll 105 [a0, a1, a2, a3, a4, vL x, vS, a7, a8, a9, a10, a11] st mem := ke_lstore (Nat.le_of_ble_eq_true rfl) rfl dX3_broughtOfAll_103
theorem eX3_broughtOfAll_105 : ev X m_X3_broughtOfAll 105 [a0, a1, a2, a3, a4, a5, a6, vI x, a8, a9, a10, a11] st mem = ev X m_X3_broughtOfAll 108 [a0, a1, a2, a3, a4, a5, a6, vI (w32 (x + 1)), a8, a9, a10, a11] st mem := ke_iinc rfl (Nat.le_of_ble_eq_true rfl) rfl dX3_broughtOfAll_105
theorem eX3_broughtOfAll_108 : ev X m_X3_broughtOfAll 108 [a0, a1, a2, a3, a4, a5, a6, a7, a8, a9, a10, a11] st mem = ev X m_X3_broughtOfAll 6 [a0, a1, a2, a3, a4, a5, a6, a7, a8, a9, a10, a11] st mem := ke_goto dX3_broughtOfAll_108 rfl
theorem eX3_broughtOfAll_111 : ev X m_X3_broughtOfAll 111 [a0, a1, a2, a3, a4, vL x, vS, a7, a8, a9, a10, a11] st mem = ev X m_X3_broughtOfAll 113 [a0, a1, a2, a3, a4, vL x, vS, a7, a8, a9, a10, a11] (vL x :: st) mem := ke_lload rfl rfl dX3_broughtOfAll_111
theorem eX3_broughtOfAll_113 : ev X m_X3_broughtOfAll 113 [a0, a1, a2, a3, a4, a5, a6, a7, a8, a9, a10, a11] [vL x] mem = some (some (vL x), mem) := ke_lreturn dX3_broughtOfAll_113 rfl
theorem eX4_partOf_0 : ev X m_X4_partOf 0 [vL x, vS, a2, a3, a4, a5, a6] st mem = ev X m_X4_partOf 1 [vL x, vS, a2, a3, a4, a5, a6] (vL x :: st) mem := ke_lload_n rfl rfl dX4_partOf_0
theorem eX4_partOf_1 : ev X m_X4_partOf 1 [a0, a1, vL x, vS, a4, a5, a6] st mem = ev X m_X4_partOf 2 [a0, a1, vL x, vS, a4, a5, a6] (vL x :: st) mem := ke_lload_n rfl rfl dX4_partOf_1
theorem eX4_partOf_2 : ev X m_X4_partOf 2 [a0, a1, a2, a3, a4, a5, a6] (vL n1 :: vL n0 :: []) mem = evc X (ev X m_X4_greatestDivisor 0 [vL n0, vS, vL n1, vS, vS, vS, vS, vS, vS, vS, vS] [] mem) m_X4_partOf 5 [a0, a1, a2, a3, a4, a5, a6] [] := ke_callS (m' := m_X4_greatestDivisor) (as := [vL n0, vL n1]) (n := 2) (rest := []) dX4_partOf_2 rfl (by decide) rfl rfl rfl rfl rfl (Nat.le_of_ble_eq_true rfl) (Nat.le_of_ble_eq_true rfl) rfl
theorem eX4_partOf_5 : ev X m_X4_partOf 5 [a0, a1, a2, a3, a4, a5, a6] (vL x :: st) mem = ev X m_X4_partOf 7 [a0, a1, a2, a3, a4, vL x, vS] st mem := ke_lstore (Nat.le_of_ble_eq_true rfl) rfl dX4_partOf_5
theorem eX4_partOf_7 : ev X m_X4_partOf 7 [a0, a1, vL x, vS, a4, a5, a6] st mem = ev X m_X4_partOf 8 [a0, a1, vL x, vS, a4, a5, a6] (vL x :: st) mem := ke_lload_n rfl rfl dX4_partOf_7
theorem eX4_partOf_8 : ev X m_X4_partOf 8 [a0, a1, a2, a3, a4, a5, a6] st mem = ev X m_X4_partOf 9 [a0, a1, a2, a3, a4, a5, a6] (vL 1 :: st) mem := ke_lconst rfl dX4_partOf_8
theorem eX4_partOf_9 : ev X m_X4_partOf 9 [a0, a1, a2, a3, a4, a5, a6] (vL y :: vL x :: st) mem = ev X m_X4_partOf 10 [a0, a1, a2, a3, a4, a5, a6] (vI (lcmp x y) :: st) mem := ke_lcmp dX4_partOf_9
theorem eX4_partOf_10 : ev X m_X4_partOf 10 [a0, a1, a2, a3, a4, a5, a6] (vI x :: st) mem = if x < 0 then ev X m_X4_partOf 20 [a0, a1, a2, a3, a4, a5, a6] st mem else ev X m_X4_partOf 13 [a0, a1, a2, a3, a4, a5, a6] st mem := ke_if_lt dX4_partOf_10 rfl
theorem eX4_partOf_13 : ev X m_X4_partOf 13 [a0, a1, a2, a3, a4, vL x, vS] st mem = ev X m_X4_partOf 15 [a0, a1, a2, a3, a4, vL x, vS] (vL x :: st) mem := ke_lload rfl rfl dX4_partOf_13
theorem eX4_partOf_15 : ev X m_X4_partOf 15 [a0, a1, a2, a3, a4, a5, a6] st mem = ev X m_X4_partOf 16 [a0, a1, a2, a3, a4, a5, a6] (vL 1 :: st) mem := ke_lconst rfl dX4_partOf_15
theorem eX4_partOf_16 : ev X m_X4_partOf 16 [a0, a1, a2, a3, a4, a5, a6] (vL y :: vL x :: st) mem = ev X m_X4_partOf 17 [a0, a1, a2, a3, a4, a5, a6] (vI (lcmp x y) :: st) mem := ke_lcmp dX4_partOf_16
theorem eX4_partOf_17 : ev X m_X4_partOf 17 [a0, a1, a2, a3, a4, a5, a6] (vI x :: st) mem = if x < 0 then ev X m_X4_partOf 20 [a0, a1, a2, a3, a4, a5, a6] st mem else ev X m_X4_partOf 31 [a0, a1, a2, a3, a4, a5, a6] st mem := ke_if_ge dX4_partOf_17 rfl
theorem eX4_partOf_20 : ev X m_X4_partOf 20 [a0, a1, a2, a3, vI x, a5, a6] st mem = ev X m_X4_partOf 22 [a0, a1, a2, a3, vI x, a5, a6] (vI x :: st) mem := ke_iload rfl dX4_partOf_20
theorem eX4_partOf_22 : ev X m_X4_partOf 22 [a0, a1, a2, a3, a4, a5, a6] (vI x :: st) mem = if x = 0 then ev X m_X4_partOf 25 [a0, a1, a2, a3, a4, a5, a6] st mem else ev X m_X4_partOf 29 [a0, a1, a2, a3, a4, a5, a6] st mem := ke_if_ne dX4_partOf_22 rfl
theorem eX4_partOf_25 : ev X m_X4_partOf 25 [a0, a1, a2, a3, a4, a5, a6] st mem = ev X m_X4_partOf 26 [a0, a1, a2, a3, a4, a5, a6] (vL 0 :: st) mem := ke_lconst rfl dX4_partOf_25
theorem eX4_partOf_26 : ev X m_X4_partOf 26 [a0, a1, a2, a3, a4, a5, a6] st mem = ev X m_X4_partOf 30 [a0, a1, a2, a3, a4, a5, a6] st mem := ke_goto dX4_partOf_26 rfl
theorem eX4_partOf_29 : ev X m_X4_partOf 29 [a0, a1, a2, a3, a4, a5, a6] st mem = ev X m_X4_partOf 30 [a0, a1, a2, a3, a4, a5, a6] (vL 1 :: st) mem := ke_lconst rfl dX4_partOf_29
theorem eX4_partOf_30 : ev X m_X4_partOf 30 [a0, a1, a2, a3, a4, a5, a6] [vL x] mem = some (some (vL x), mem) := ke_lreturn dX4_partOf_30 rfl
theorem eX4_partOf_31 : ev X m_X4_partOf 31 [a0, a1, a2, a3, vI x, a5, a6] st mem = ev X m_X4_partOf 33 [a0, a1, a2, a3, vI x, a5, a6] (vI x :: st) mem := ke_iload rfl dX4_partOf_31
theorem eX4_partOf_33 : ev X m_X4_partOf 33 [a0, a1, a2, a3, a4, a5, a6] (vI x :: st) mem = if x = 0 then ev X m_X4_partOf 36 [a0, a1, a2, a3, a4, a5, a6] st mem else ev X m_X4_partOf 40 [a0, a1, a2, a3, a4, a5, a6] st mem := ke_if_ne dX4_partOf_33 rfl
theorem eX4_partOf_36 : ev X m_X4_partOf 36 [vL x, vS, a2, a3, a4, a5, a6] st mem = ev X m_X4_partOf 37 [vL x, vS, a2, a3, a4, a5, a6] (vL x :: st) mem := ke_lload_n rfl rfl dX4_partOf_36
theorem eX4_partOf_37 : ev X m_X4_partOf 37 [a0, a1, a2, a3, a4, a5, a6] st mem = ev X m_X4_partOf 41 [a0, a1, a2, a3, a4, a5, a6] st mem := ke_goto dX4_partOf_37 rfl
theorem eX4_partOf_40 : ev X m_X4_partOf 40 [a0, a1, vL x, vS, a4, a5, a6] st mem = ev X m_X4_partOf 41 [a0, a1, vL x, vS, a4, a5, a6] (vL x :: st) mem := ke_lload_n rfl rfl dX4_partOf_40
theorem eX4_partOf_41 : ev X m_X4_partOf 41 [a0, a1, a2, a3, a4, vL x, vS] st mem = ev X m_X4_partOf 43 [a0, a1, a2, a3, a4, vL x, vS] (vL x :: st) mem := ke_lload rfl rfl dX4_partOf_41
theorem eX4_partOf_43 : ev X m_X4_partOf 43 [a0, a1, a2, a3, a4, a5, a6] (vL y :: vL x :: st) mem = if y = 0 then none else ev X m_X4_partOf 44 [a0, a1, a2, a3, a4, a5, a6] (vL (w64 (x.tdiv y)) :: st) mem := ke_ldiv dX4_partOf_43
theorem eX4_partOf_44 : ev X m_X4_partOf 44 [a0, a1, a2, a3, a4, a5, a6] [vL x] mem = some (some (vL x), mem) := ke_lreturn dX4_partOf_44 rfl
theorem eX4_greatestDivisor_0 : ev X m_X4_greatestDivisor 0 [vL x, vS, a2, a3, a4, a5, a6, a7, a8, a9, a10] st mem = ev X m_X4_greatestDivisor 1 [vL x, vS, a2, a3, a4, a5, a6, a7, a8, a9, a10] (vL x :: st) mem := ke_lload_n rfl rfl dX4_greatestDivisor_0
theorem eX4_greatestDivisor_1 : ev X m_X4_greatestDivisor 1 [a0, a1, a2, a3, a4, a5, a6, a7, a8, a9, a10] (vL x :: st) mem = ev X m_X4_greatestDivisor 3 [a0, a1, a2, a3, vL x, vS, a6, a7, a8, a9, a10] st mem := ke_lstore (Nat.le_of_ble_eq_true rfl) rfl dX4_greatestDivisor_1
theorem eX4_greatestDivisor_3 : ev X m_X4_greatestDivisor 3 [a0, a1, vL x, vS, a4, a5, a6, a7, a8, a9, a10] st mem = ev X m_X4_greatestDivisor 4 [a0, a1, vL x, vS, a4, a5, a6, a7, a8, a9, a10] (vL x :: st) mem := ke_lload_n rfl rfl dX4_greatestDivisor_3
theorem eX4_greatestDivisor_4 : ev X m_X4_greatestDivisor 4 [a0, a1, a2, a3, a4, a5, a6, a7, a8, a9, a10] (vL x :: st) mem = ev X m_X4_greatestDivisor 6 [a0, a1, a2, a3, a4, a5, vL x, vS, a8, a9, a10] st mem := ke_lstore (Nat.le_of_ble_eq_true rfl) rfl dX4_greatestDivisor_4
theorem eX4_greatestDivisor_6 : ev X m_X4_greatestDivisor 6 [a0, a1, a2, a3, a4, a5, a6, a7, a8, a9, a10] st mem = ev X m_X4_greatestDivisor 7 [a0, a1, a2, a3, a4, a5, a6, a7, a8, a9, a10] (vI 0 :: st) mem := ke_iconst (by decide) dX4_greatestDivisor_6
theorem eX4_greatestDivisor_7 : ev X m_X4_greatestDivisor 7 [a0, a1, a2, a3, a4, a5, a6, a7, a8, a9, a10] (vI x :: st) mem = ev X m_X4_greatestDivisor 9 [a0, a1, a2, a3, a4, a5, a6, a7, vI x, a9, a10] st mem := ke_istore (Nat.le_of_ble_eq_true rfl) rfl dX4_greatestDivisor_7
theorem eX4_greatestDivisor_9 : ev X m_X4_greatestDivisor 9 [a0, a1, a2, a3, a4, a5, a6, a7, vI x, a9, a10] st mem = ev X m_X4_greatestDivisor 11 [a0, a1, a2, a3, a4, a5, a6, a7, vI x, a9, a10] (vI x :: st) mem := ke_iload rfl dX4_greatestDivisor_9
theorem eX4_greatestDivisor_11 : ev X m_X4_greatestDivisor 11 [a0, a1, a2, a3, a4, a5, a6, a7, a8, a9, a10] st mem = ev X m_X4_greatestDivisor 13 [a0, a1, a2, a3, a4, a5, a6, a7, a8, a9, a10] (vI 100 :: st) mem := ke_bipush (by decide) dX4_greatestDivisor_11
theorem eX4_greatestDivisor_13 : ev X m_X4_greatestDivisor 13 [a0, a1, a2, a3, a4, a5, a6, a7, a8, a9, a10] (vI y :: vI x :: st) mem = if x < y then ev X m_X4_greatestDivisor 16 [a0, a1, a2, a3, a4, a5, a6, a7, a8, a9, a10] st mem else ev X m_X4_greatestDivisor 44 [a0, a1, a2, a3, a4, a5, a6, a7, a8, a9, a10] st mem := ke_icmp_ge dX4_greatestDivisor_13 rfl
theorem eX4_greatestDivisor_16 : ev X m_X4_greatestDivisor 16 [a0, a1, a2, a3, a4, a5, vL x, vS, a8, a9, a10] st mem = ev X m_X4_greatestDivisor 18 [a0, a1, a2, a3, a4, a5, vL x, vS, a8, a9, a10] (vL x :: st) mem := ke_lload rfl rfl dX4_greatestDivisor_16
theorem eX4_greatestDivisor_18 : ev X m_X4_greatestDivisor 18 [a0, a1, a2, a3, a4, a5, a6, a7, a8, a9, a10] st mem = ev X m_X4_greatestDivisor 19 [a0, a1, a2, a3, a4, a5, a6, a7, a8, a9, a10] (vL 0 :: st) mem := ke_lconst rfl dX4_greatestDivisor_18
theorem eX4_greatestDivisor_19 : ev X m_X4_greatestDivisor 19 [a0, a1, a2, a3, a4, a5, a6, a7, a8, a9, a10] (vL y :: vL x :: st) mem = ev X m_X4_greatestDivisor 20 [a0, a1, a2, a3, a4, a5, a6, a7, a8, a9, a10] (vI (lcmp x y) :: st) mem := ke_lcmp dX4_greatestDivisor_19
theorem eX4_greatestDivisor_20 : ev X m_X4_greatestDivisor 20 [a0, a1, a2, a3, a4, a5, a6, a7, a8, a9, a10] (vI x :: st) mem = if 0 < x then ev X m_X4_greatestDivisor 23 [a0, a1, a2, a3, a4, a5, a6, a7, a8, a9, a10] st mem else ev X m_X4_greatestDivisor 44 [a0, a1, a2, a3, a4, a5, a6, a7, a8, a9, a10] st mem := ke_if_le dX4_greatestDivisor_20 rfl
theorem eX4_greatestDivisor_23 : ev X m_X4_greatestDivisor 23 [a0, a1, a2, a3, vL x, vS, a6, a7, a8, a9, a10] st mem = ev X m_X4_greatestDivisor 25 [a0, a1, a2, a3, vL x, vS, a6, a7, a8, a9, a10] (vL x :: st) mem := ke_lload rfl rfl dX4_greatestDivisor_23
theorem eX4_greatestDivisor_25 : ev X m_X4_greatestDivisor 25 [a0, a1, a2, a3, a4, a5, vL x, vS, a8, a9, a10] st mem = ev X m_X4_greatestDivisor 27 [a0, a1, a2, a3, a4, a5, vL x, vS, a8, a9, a10] (vL x :: st) mem := ke_lload rfl rfl dX4_greatestDivisor_25
theorem eX4_greatestDivisor_27 : ev X m_X4_greatestDivisor 27 [a0, a1, a2, a3, a4, a5, a6, a7, a8, a9, a10] (vL y :: vL x :: st) mem = if y = 0 then none else ev X m_X4_greatestDivisor 28 [a0, a1, a2, a3, a4, a5, a6, a7, a8, a9, a10] (vL (w64 (x.tmod y)) :: st) mem := ke_lrem dX4_greatestDivisor_27
theorem eX4_greatestDivisor_28 : ev X m_X4_greatestDivisor 28 [a0, a1, a2, a3, a4, a5, a6, a7, a8, a9, a10] (vL x :: st) mem = ev X m_X4_greatestDivisor 30 [a0, a1, a2, a3, a4, a5, a6, a7, a8, vL x, vS] st mem := ke_lstore (Nat.le_of_ble_eq_true rfl) rfl dX4_greatestDivisor_28
theorem eX4_greatestDivisor_30 : ev X m_X4_greatestDivisor 30 [a0, a1, a2, a3, a4, a5, vL x, vS, a8, a9, a10] st mem = ev X m_X4_greatestDivisor 32 [a0, a1, a2, a3, a4, a5, vL x, vS, a8, a9, a10] (vL x :: st) mem := ke_lload rfl rfl dX4_greatestDivisor_30
theorem eX4_greatestDivisor_32 : ev X m_X4_greatestDivisor 32 [a0, a1, a2, a3, a4, a5, a6, a7, a8, a9, a10] (vL x :: st) mem = ev X m_X4_greatestDivisor 34 [a0, a1, a2, a3, vL x, vS, a6, a7, a8, a9, a10] st mem := ke_lstore (Nat.le_of_ble_eq_true rfl) rfl dX4_greatestDivisor_32
theorem eX4_greatestDivisor_34 : ev X m_X4_greatestDivisor 34 [a0, a1, a2, a3, a4, a5, a6, a7, a8, vL x, vS] st mem = ev X m_X4_greatestDivisor 36 [a0, a1, a2, a3, a4, a5, a6, a7, a8, vL x, vS] (vL x :: st) mem := ke_lload rfl rfl dX4_greatestDivisor_34
theorem eX4_greatestDivisor_36 : ev X m_X4_greatestDivisor 36 [a0, a1, a2, a3, a4, a5, a6, a7, a8, a9, a10] (vL x :: st) mem = ev X m_X4_greatestDivisor 38 [a0, a1, a2, a3, a4, a5, vL x, vS, a8, a9, a10] st mem := ke_lstore (Nat.le_of_ble_eq_true rfl) rfl dX4_greatestDivisor_36
theorem eX4_greatestDivisor_38 : ev X m_X4_greatestDivisor 38 [a0, a1, a2, a3, a4, a5, a6, a7, vI x, a9, a10] st mem = ev X m_X4_greatestDivisor 41 [a0, a1, a2, a3, a4, a5, a6, a7, vI (w32 (x + 1)), a9, a10] st mem := ke_iinc rfl (Nat.le_of_ble_eq_true rfl) rfl dX4_greatestDivisor_38
theorem eX4_greatestDivisor_41 : ev X m_X4_greatestDivisor 41 [a0, a1, a2, a3, a4, a5, a6, a7, a8, a9, a10] st mem = ev X m_X4_greatestDivisor 9 [a0, a1, a2, a3, a4, a5, a6, a7, a8, a9, a10] st mem := ke_goto dX4_greatestDivisor_41 rfl
theorem eX4_greatestDivisor_44 : ev X m_X4_greatestDivisor 44 [a0, a1, a2, a3, vL x, vS, a6, a7, a8, a9, a10] st mem = ev X m_X4_greatestDivisor 46 [a0, a1, a2, a3, vL x, vS, a6, a7, a8, a9, a10] (vL x :: st) mem := ke_lload rfl rfl dX4_greatestDivisor_44
theorem eX4_greatestDivisor_46 : ev X m_X4_greatestDivisor 46 [a0, a1, a2, a3, a4, a5, a6, a7, a8, a9, a10] [vL x] mem = some (some (vL x), mem) := ke_lreturn dX4_greatestDivisor_46 rfl
theorem eX4_mean_0 : ev X m_X4_mean 0 [a0, vI x] st mem = ev X m_X4_mean 1 [a0, vI x] (vI x :: st) mem := ke_iload_n rfl dX4_mean_0
theorem eX4_mean_1 : ev X m_X4_mean 1 [a0, a1] (vI x :: st) mem = if x < 0 then ev X m_X4_mean 9 [a0, a1] st mem else ev X m_X4_mean 4 [a0, a1] st mem := ke_if_lt dX4_mean_1 rfl
theorem eX4_mean_4 : ev X m_X4_mean 4 [a0, vI x] st mem = ev X m_X4_mean 5 [a0, vI x] (vI x :: st) mem := ke_iload_n rfl dX4_mean_4
theorem eX4_mean_5 : ev X m_X4_mean 5 [a0, a1] st mem = ev X m_X4_mean 6 [a0, a1] (vI 1 :: st) mem := ke_iconst (by decide) dX4_mean_5
theorem eX4_mean_6 : ev X m_X4_mean 6 [a0, a1] (vI y :: vI x :: st) mem = if y < x then ev X m_X4_mean 9 [a0, a1] st mem else ev X m_X4_mean 16 [a0, a1] st mem := ke_icmp_le dX4_mean_6 rfl
theorem eX4_mean_9 : ev X m_X4_mean 9 [vR r, a1] st mem = ev X m_X4_mean 10 [vR r, a1] (vR r :: st) mem := ke_aload_n rfl dX4_mean_9
theorem eX4_mean_10 : ev X m_X4_mean 10 [a0, a1] st mem = ev X m_X4_mean 12 [a0, a1] (vI (-2) :: st) mem := ke_bipush (by decide) dX4_mean_10
theorem eX4_mean_12 : ev X m_X4_mean 12 [a0, a1] (vI n0 :: vR r :: []) mem = evc X (gR mem r 4 (ev X m_X4_refuseLong 0 [vR r, vI n0] [] mem)) m_X4_mean 15 [a0, a1] [] := ke_callV (m' := m_X4_refuseLong) (as := [vI n0]) (n := 1) (rest := []) dX4_mean_12 rfl rfl rfl rfl rfl rfl (Nat.le_of_ble_eq_true rfl) (Nat.le_of_ble_eq_true rfl) (Nat.le_of_ble_eq_true rfl) rfl
theorem eX4_mean_15 : ev X m_X4_mean 15 [a0, a1] [vL x] mem = some (some (vL x), mem) := ke_lreturn dX4_mean_15 rfl
theorem eX4_mean_16 : ev X m_X4_mean 16 [vR r, a1] st mem = ev X m_X4_mean 17 [vR r, a1] (vR r :: st) mem := ke_aload_n rfl dX4_mean_16
theorem eX4_mean_17 : ev X m_X4_mean 17 [a0, a1] (vR r :: st) mem = evb X (fget mem r 4 0) m_X4_mean 20 [a0, a1] st mem := ke_getf rfl dX4_mean_17
theorem eX4_mean_20 : ev X m_X4_mean 20 [a0, a1] (vR r :: []) mem = evc X (gR mem r 0 (ev X m_X0_hatesTogether 0 [vR r, vS, vS] [] mem)) m_X4_mean 23 [a0, a1] [] := ke_callV (m' := m_X0_hatesTogether) (as := []) (n := 0) (rest := []) dX4_mean_20 rfl rfl rfl rfl rfl rfl (Nat.le_of_ble_eq_true rfl) (Nat.le_of_ble_eq_true rfl) (Nat.le_of_ble_eq_true rfl) rfl
theorem eX4_mean_23 : ev X m_X4_mean 23 [a0, a1] (vI x :: st) mem = ev X m_X4_mean 24 [a0, a1] (vL x :: st) mem := ke_i2l dX4_mean_23
theorem eX4_mean_24 : ev X m_X4_mean 24 [vR r, a1] st mem = ev X m_X4_mean 25 [vR r, a1] (vR r :: st) mem := ke_aload_n rfl dX4_mean_24
theorem eX4_mean_25 : ev X m_X4_mean 25 [a0, a1] (vR r :: st) mem = evb X (fget mem r 4 0) m_X4_mean 28 [a0, a1] st mem := ke_getf rfl dX4_mean_25
theorem eX4_mean_28 : ev X m_X4_mean 28 [a0, a1] (vR r :: st) mem = evb X (fget mem r 0 0) m_X4_mean 31 [a0, a1] st mem := ke_getf rfl dX4_mean_28
theorem eX4_mean_31 : ev X m_X4_mean 31 [vR r, a1] st mem = ev X m_X4_mean 32 [vR r, a1] (vR r :: st) mem := ke_aload_n rfl dX4_mean_31
theorem eX4_mean_32 : ev X m_X4_mean 32 [a0, a1] (vR r :: st) mem = evb X (fget mem r 4 0) m_X4_mean 35 [a0, a1] st mem := ke_getf rfl dX4_mean_32
theorem eX4_mean_35 : ev X m_X4_mean 35 [a0, a1] (vR r :: st) mem = evb X (fget mem r 0 0) m_X4_mean 38 [a0, a1] st mem := ke_getf rfl dX4_mean_35
theorem eX4_mean_38 : ev X m_X4_mean 38 [a0, a1] st mem = ev X m_X4_mean 39 [a0, a1] (vI 1 :: st) mem := ke_iconst (by decide) dX4_mean_38
theorem eX4_mean_39 : ev X m_X4_mean 39 [a0, a1] (vI y :: vI x :: st) mem = ev X m_X4_mean 40 [a0, a1] (vI (w32 (x - y)) :: st) mem := ke_isub dX4_mean_39
theorem eX4_mean_40 : ev X m_X4_mean 40 [a0, a1] (vI y :: vI x :: st) mem = ev X m_X4_mean 41 [a0, a1] (vI (w32 (x * y)) :: st) mem := ke_imul dX4_mean_40
theorem eX4_mean_41 : ev X m_X4_mean 41 [a0, a1] (vI x :: st) mem = ev X m_X4_mean 42 [a0, a1] (vL x :: st) mem := ke_i2l dX4_mean_41
theorem eX4_mean_42 : ev X m_X4_mean 42 [a0, vI x] st mem = ev X m_X4_mean 43 [a0, vI x] (vI x :: st) mem := ke_iload_n rfl dX4_mean_42
theorem eX4_mean_43 : ev X m_X4_mean 43 [a0, a1] (vI n2 :: vL n1 :: vL n0 :: []) mem = evc X (ev X m_X4_partOf 0 [vL n0, vS, vL n1, vS, vI n2, vS, vS] [] mem) m_X4_mean 46 [a0, a1] [] := ke_callS (m' := m_X4_partOf) (as := [vL n0, vL n1, vI n2]) (n := 3) (rest := []) dX4_mean_43 rfl (by decide) rfl rfl rfl rfl rfl (Nat.le_of_ble_eq_true rfl) (Nat.le_of_ble_eq_true rfl) rfl
theorem eX4_mean_46 : ev X m_X4_mean 46 [a0, a1] [vL x] mem = some (some (vL x), mem) := ke_lreturn dX4_mean_46 rfl
theorem eX0_hatesTogether_0 : ev X m_X0_hatesTogether 0 [a0, a1, a2] st mem = ev X m_X0_hatesTogether 1 [a0, a1, a2] (vI 0 :: st) mem := ke_iconst (by decide) dX0_hatesTogether_0
theorem eX0_hatesTogether_1 : ev X m_X0_hatesTogether 1 [a0, a1, a2] (vI x :: st) mem = ev X m_X0_hatesTogether 2 [a0, vI x, a2] st mem := ke_istore_n (Nat.le_of_ble_eq_true rfl) rfl dX0_hatesTogether_1
theorem eX0_hatesTogether_2 : ev X m_X0_hatesTogether 2 [a0, a1, a2] st mem = ev X m_X0_hatesTogether 3 [a0, a1, a2] (vI 0 :: st) mem := ke_iconst (by decide) dX0_hatesTogether_2
theorem eX0_hatesTogether_3 : ev X m_X0_hatesTogether 3 [a0, a1, a2] (vI x :: st) mem = ev X m_X0_hatesTogether 4 [a0, a1, vI x] st mem := ke_istore_n (Nat.le_of_ble_eq_true rfl) rfl dX0_hatesTogether_3
theorem eX0_hatesTogether_4 : ev X m_X0_hatesTogether 4 [a0, a1, vI x] st mem = ev X m_X0_hatesTogether 5 [a0, a1, vI x] (vI x :: st) mem := ke_iload_n rfl dX0_hatesTogether_4
theorem eX0_hatesTogether_5 : ev X m_X0_hatesTogether 5 [vR r, a1, a2] st mem = ev X m_X0_hatesTogether 6 [vR r, a1, a2] (vR r :: st) mem := ke_aload_n rfl dX0_hatesTogether_5
theorem eX0_hatesTogether_6 : ev X m_X0_hatesTogether 6 [a0, a1, a2] (vR r :: st) mem = evb X (fget mem r 0 7) m_X0_hatesTogether 9 [a0, a1, a2] st mem := ke_getf rfl dX0_hatesTogether_6
theorem eX0_hatesTogether_9 : ev X m_X0_hatesTogether 9 [a0, a1, a2] (vR r :: st) mem = evb X (alen mem r) m_X0_hatesTogether 10 [a0, a1, a2] st mem := ke_alen dX0_hatesTogether_9
theorem eX0_hatesTogether_10 : ev X m_X0_hatesTogether 10 [a0, a1, a2] (vI y :: vI x :: st) mem = if x < y then ev X m_X0_hatesTogether 13 [a0, a1, a2] st mem else ev X m_X0_hatesTogether 28 [a0, a1, a2] st mem := ke_icmp_ge dX0_hatesTogether_10 rfl
theorem eX0_hatesTogether_13 : ev X m_X0_hatesTogether 13 [a0, vI x, a2] st mem = ev X m_X0_hatesTogether 14 [a0, vI x, a2] (vI x :: st) mem := ke_iload_n rfl dX0_hatesTogether_13
theorem eX0_hatesTogether_14 : ev X m_X0_hatesTogether 14 [vR r, a1, a2] st mem = ev X m_X0_hatesTogether 15 [vR r, a1, a2] (vR r :: st) mem := ke_aload_n rfl dX0_hatesTogether_14
theorem eX0_hatesTogether_15 : ev X m_X0_hatesTogether 15 [a0, a1, a2] (vR r :: st) mem = evb X (fget mem r 0 7) m_X0_hatesTogether 18 [a0, a1, a2] st mem := ke_getf rfl dX0_hatesTogether_15
theorem eX0_hatesTogether_18 : ev X m_X0_hatesTogether 18 [a0, a1, vI x] st mem = ev X m_X0_hatesTogether 19 [a0, a1, vI x] (vI x :: st) mem := ke_iload_n rfl dX0_hatesTogether_18
theorem eX0_hatesTogether_19 : ev X m_X0_hatesTogether 19 [a0, a1, a2] (vI x :: vR r :: st) mem = evb X (aget mem r x) m_X0_hatesTogether 20 [a0, a1, a2] st mem := ke_iaload dX0_hatesTogether_19
theorem eX0_hatesTogether_20 : ev X m_X0_hatesTogether 20 [a0, a1, a2] (vI y :: vI x :: st) mem = ev X m_X0_hatesTogether 21 [a0, a1, a2] (vI (w32 (x + y)) :: st) mem := ke_iadd dX0_hatesTogether_20
theorem eX0_hatesTogether_21 : ev X m_X0_hatesTogether 21 [a0, a1, a2] (vI x :: st) mem = ev X m_X0_hatesTogether 22 [a0, vI x, a2] st mem := ke_istore_n (Nat.le_of_ble_eq_true rfl) rfl dX0_hatesTogether_21
theorem eX0_hatesTogether_22 : ev X m_X0_hatesTogether 22 [a0, a1, vI x] st mem = ev X m_X0_hatesTogether 25 [a0, a1, vI (w32 (x + 1))] st mem := ke_iinc rfl (Nat.le_of_ble_eq_true rfl) rfl dX0_hatesTogether_22
theorem eX0_hatesTogether_25 : ev X m_X0_hatesTogether 25 [a0, a1, a2] st mem = ev X m_X0_hatesTogether 4 [a0, a1, a2] st mem := ke_goto dX0_hatesTogether_25 rfl
theorem eX0_hatesTogether_28 : ev X m_X0_hatesTogether 28 [a0, vI x, a2] st mem = ev X m_X0_hatesTogether 29 [a0, vI x, a2] (vI x :: st) mem := ke_iload_n rfl dX0_hatesTogether_28
theorem eX0_hatesTogether_29 : ev X m_X0_hatesTogether 29 [a0, a1, a2] [vI x] mem = some (some (vI x), mem) := ke_ireturn dX0_hatesTogether_29 rfl
theorem eX4_who_0 : ev X m_X4_who 0 [vR r, a1, a2, a3] st mem = ev X m_X4_who 1 [vR r, a1, a2, a3] (vR r :: st) mem := ke_aload_n rfl dX4_who_0
theorem eX4_who_1 : ev X m_X4_who 1 [a0, a1, a2, a3] (vR r :: st) mem = evb X (fget mem r 4 0) m_X4_who 4 [a0, a1, a2, a3] st mem := ke_getf rfl dX4_who_1
theorem eX4_who_4 : ev X m_X4_who 4 [a0, vI x, a2, a3] st mem = ev X m_X4_who 5 [a0, vI x, a2, a3] (vI x :: st) mem := ke_iload_n rfl dX4_who_4
theorem eX4_who_5 : ev X m_X4_who 5 [a0, a1, a2, a3] (vI n0 :: vR r :: []) mem = evc X (gR mem r 0 (ev X m_X0_hasParcel 0 [vR r, vI n0] [] mem)) m_X4_who 8 [a0, a1, a2, a3] [] := ke_callV (m' := m_X0_hasParcel) (as := [vI n0]) (n := 1) (rest := []) dX4_who_5 rfl rfl rfl rfl rfl rfl (Nat.le_of_ble_eq_true rfl) (Nat.le_of_ble_eq_true rfl) (Nat.le_of_ble_eq_true rfl) rfl
theorem eX4_who_8 : ev X m_X4_who 8 [a0, a1, a2, a3] (vI x :: st) mem = if x = 0 then ev X m_X4_who 22 [a0, a1, a2, a3] st mem else ev X m_X4_who 11 [a0, a1, a2, a3] st mem := ke_if_eq dX4_who_8 rfl
theorem eX4_who_11 : ev X m_X4_who 11 [vR r, a1, a2, a3] st mem = ev X m_X4_who 12 [vR r, a1, a2, a3] (vR r :: st) mem := ke_aload_n rfl dX4_who_11
theorem eX4_who_12 : ev X m_X4_who 12 [a0, a1, a2, a3] (vR r :: st) mem = evb X (fget mem r 4 0) m_X4_who 15 [a0, a1, a2, a3] st mem := ke_getf rfl dX4_who_12
theorem eX4_who_15 : ev X m_X4_who 15 [a0, a1, vI x, a3] st mem = ev X m_X4_who 16 [a0, a1, vI x, a3] (vI x :: st) mem := ke_iload_n rfl dX4_who_15
theorem eX4_who_16 : ev X m_X4_who 16 [a0, a1, a2, a3] (vI n0 :: vR r :: []) mem = evc X (gR mem r 0 (ev X m_X0_hasPerson 0 [vR r, vI n0] [] mem)) m_X4_who 19 [a0, a1, a2, a3] [] := ke_callV (m' := m_X0_hasPerson) (as := [vI n0]) (n := 1) (rest := []) dX4_who_16 rfl rfl rfl rfl rfl rfl (Nat.le_of_ble_eq_true rfl) (Nat.le_of_ble_eq_true rfl) (Nat.le_of_ble_eq_true rfl) rfl
theorem eX4_who_19 : ev X m_X4_who 19 [a0, a1, a2, a3] (vI x :: st) mem = if x = 0 then ev X m_X4_who 22 [a0, a1, a2, a3] st mem else ev X m_X4_who 28 [a0, a1, a2, a3] st mem := ke_if_ne dX4_who_19 rfl
theorem eX4_who_22 : ev X m_X4_who 22 [vR r, a1, a2, a3] st mem = ev X m_X4_who 23 [vR r, a1, a2, a3] (vR r :: st) mem := ke_aload_n rfl dX4_who_22
theorem eX4_who_23 : ev X m_X4_who 23 [a0, a1, a2, a3] st mem = ev X m_X4_who 24 [a0, a1, a2, a3] (vI (-1) :: st) mem := ke_iconst (by decide) dX4_who_23
theorem eX4_who_24 : ev X m_X4_who 24 [a0, a1, a2, a3] (vI n0 :: vR r :: []) mem = evc X (gR mem r 4 (ev X m_X4_refuse 0 [vR r, vI n0] [] mem)) m_X4_who 27 [a0, a1, a2, a3] [] := ke_callV (m' := m_X4_refuse) (as := [vI n0]) (n := 1) (rest := []) dX4_who_24 rfl rfl rfl rfl rfl rfl (Nat.le_of_ble_eq_true rfl) (Nat.le_of_ble_eq_true rfl) (Nat.le_of_ble_eq_true rfl) rfl
theorem eX4_who_27 : ev X m_X4_who 27 [a0, a1, a2, a3] [vI x] mem = some (some (vI x), mem) := ke_ireturn dX4_who_27 rfl
theorem eX4_who_28 : ev X m_X4_who 28 [a0, a1, a2, vI x] st mem = ev X m_X4_who 29 [a0, a1, a2, vI x] (vI x :: st) mem := ke_iload_n rfl dX4_who_28
theorem eX4_who_29 : ev X m_X4_who 29 [a0, a1, a2, a3] (vI x :: st) mem = if x < 0 then ev X m_X4_who 37 [a0, a1, a2, a3] st mem else ev X m_X4_who 32 [a0, a1, a2, a3] st mem := ke_if_lt dX4_who_29 rfl
theorem eX4_who_32 : ev X m_X4_who 32 [a0, a1, a2, vI x] st mem = ev X m_X4_who 33 [a0, a1, a2, vI x] (vI x :: st) mem := ke_iload_n rfl dX4_who_32
theorem eX4_who_33 : ev X m_X4_who 33 [a0, a1, a2, a3] st mem = ev X m_X4_who 34 [a0, a1, a2, a3] (vI 1 :: st) mem := ke_iconst (by decide) dX4_who_33
theorem eX4_who_34 : ev X m_X4_who 34 [a0, a1, a2, a3] (vI y :: vI x :: st) mem = if y < x then ev X m_X4_who 37 [a0, a1, a2, a3] st mem else ev X m_X4_who 44 [a0, a1, a2, a3] st mem := ke_icmp_le dX4_who_34 rfl
theorem eX4_who_37 : ev X m_X4_who 37 [vR r, a1, a2, a3] st mem = ev X m_X4_who 38 [vR r, a1, a2, a3] (vR r :: st) mem := ke_aload_n rfl dX4_who_37
theorem eX4_who_38 : ev X m_X4_who 38 [a0, a1, a2, a3] st mem = ev X m_X4_who 40 [a0, a1, a2, a3] (vI (-2) :: st) mem := ke_bipush (by decide) dX4_who_38
theorem eX4_who_40 : ev X m_X4_who 40 [a0, a1, a2, a3] (vI n0 :: vR r :: []) mem = evc X (gR mem r 4 (ev X m_X4_refuse 0 [vR r, vI n0] [] mem)) m_X4_who 43 [a0, a1, a2, a3] [] := ke_callV (m' := m_X4_refuse) (as := [vI n0]) (n := 1) (rest := []) dX4_who_40 rfl rfl rfl rfl rfl rfl (Nat.le_of_ble_eq_true rfl) (Nat.le_of_ble_eq_true rfl) (Nat.le_of_ble_eq_true rfl) rfl
theorem eX4_who_43 : ev X m_X4_who 43 [a0, a1, a2, a3] [vI x] mem = some (some (vI x), mem) := ke_ireturn dX4_who_43 rfl
theorem eX4_who_44 : ev X m_X4_who 44 [vR r, a1, a2, a3] st mem = ev X m_X4_who 45 [vR r, a1, a2, a3] (vR r :: st) mem := ke_aload_n rfl dX4_who_44
theorem eX4_who_45 : ev X m_X4_who 45 [a0, a1, a2, a3] (vR r :: st) mem = evb X (fget mem r 4 3) m_X4_who 48 [a0, a1, a2, a3] st mem := ke_getf rfl dX4_who_45
theorem eX4_who_48 : ev X m_X4_who 48 [vR r, a1, a2, a3] st mem = ev X m_X4_who 49 [vR r, a1, a2, a3] (vR r :: st) mem := ke_aload_n rfl dX4_who_48
theorem eX4_who_49 : ev X m_X4_who 49 [a0, a1, a2, a3] (vR r :: st) mem = evb X (fget mem r 4 0) m_X4_who 52 [a0, a1, a2, a3] st mem := ke_getf rfl dX4_who_49
theorem eX4_who_52 : ev X m_X4_who 52 [a0, vI x, a2, a3] st mem = ev X m_X4_who 53 [a0, vI x, a2, a3] (vI x :: st) mem := ke_iload_n rfl dX4_who_52
theorem eX4_who_53 : ev X m_X4_who 53 [a0, a1, vI x, a3] st mem = ev X m_X4_who 54 [a0, a1, vI x, a3] (vI x :: st) mem := ke_iload_n rfl dX4_who_53
theorem eX4_who_54 : ev X m_X4_who 54 [a0, a1, a2, vI x] st mem = ev X m_X4_who 55 [a0, a1, a2, vI x] (vI x :: st) mem := ke_iload_n rfl dX4_who_54
theorem eX4_who_55 : ev X m_X4_who 55 [a0, a1, a2, a3] st mem = ev X m_X4_who 56 [a0, a1, a2, a3] (vI 1 :: st) mem := ke_iconst (by decide) dX4_who_55
theorem eX4_who_56 : ev X m_X4_who 56 [a0, a1, a2, a3] (vI y :: vI x :: st) mem = if x = y then ev X m_X4_who 59 [a0, a1, a2, a3] st mem else ev X m_X4_who 63 [a0, a1, a2, a3] st mem := ke_icmp_ne dX4_who_56 rfl
theorem eX4_who_59 : ev X m_X4_who 59 [a0, a1, a2, a3] st mem = ev X m_X4_who 60 [a0, a1, a2, a3] (vI 1 :: st) mem := ke_iconst (by decide) dX4_who_59
theorem eX4_who_60 : ev X m_X4_who 60 [a0, a1, a2, a3] st mem = ev X m_X4_who 64 [a0, a1, a2, a3] st mem := ke_goto dX4_who_60 rfl
theorem eX4_who_63 : ev X m_X4_who 63 [a0, a1, a2, a3] st mem = ev X m_X4_who 64 [a0, a1, a2, a3] (vI 0 :: st) mem := ke_iconst (by decide) dX4_who_63
theorem eX4_who_64 : ev X m_X4_who 64 [vR r, a1, a2, a3] st mem = ev X m_X4_who 65 [vR r, a1, a2, a3] (vR r :: st) mem := ke_aload_n rfl dX4_who_64
theorem eX4_who_65 : ev X m_X4_who 65 [a0, a1, a2, a3] (vR r :: st) mem = evb X (fget mem r 4 5) m_X4_who 68 [a0, a1, a2, a3] st mem := ke_getf rfl dX4_who_65
theorem eX4_who_68 : ev X m_X4_who 68 [a0, a1, a2, a3] (vR r4 :: vI n3 :: vI n2 :: vI n1 :: vR r0 :: vR r :: []) mem = evc X (gR mem r 3 (ev X m_X3_fitting 0 [vR r, vR r0, vI n1, vI n2, vI n3, vR r4, vS, vS, vS] [] mem)) m_X4_who 71 [a0, a1, a2, a3] [] := ke_callV (m' := m_X3_fitting) (as := [vR r0, vI n1, vI n2, vI n3, vR r4]) (n := 5) (rest := []) dX4_who_68 rfl rfl rfl rfl rfl rfl (Nat.le_of_ble_eq_true rfl) (Nat.le_of_ble_eq_true rfl) (Nat.le_of_ble_eq_true rfl) rfl
theorem eX4_who_71 : ev X m_X4_who 71 [a0, a1, a2, a3] [vI x] mem = some (some (vI x), mem) := ke_ireturn dX4_who_71 rfl
theorem eX3_fitting_0 : ev X m_X3_fitting 0 [a0, a1, a2, a3, a4, a5, a6, a7, a8] st mem = ev X m_X3_fitting 1 [a0, a1, a2, a3, a4, a5, a6, a7, a8] (vI 0 :: st) mem := ke_iconst (by decide) dX3_fitting_0
theorem eX3_fitting_1 : ev X m_X3_fitting 1 [a0, a1, a2, a3, a4, a5, a6, a7, a8] (vI x :: st) mem = ev X m_X3_fitting 3 [a0, a1, a2, a3, a4, a5, vI x, a7, a8] st mem := ke_istore (Nat.le_of_ble_eq_true rfl) rfl dX3_fitting_1
theorem eX3_fitting_3 : ev X m_X3_fitting 3 [a0, a1, a2, a3, vI x, a5, a6, a7, a8] st mem = ev X m_X3_fitting 5 [a0, a1, a2, a3, vI x, a5, a6, a7, a8] (vI x :: st) mem := ke_iload rfl dX3_fitting_3
theorem eX3_fitting_5 : ev X m_X3_fitting 5 [a0, a1, a2, a3, a4, a5, a6, a7, a8] (vI x :: st) mem = if x = 0 then ev X m_X3_fitting 13 [a0, a1, a2, a3, a4, a5, a6, a7, a8] st mem else ev X m_X3_fitting 8 [a0, a1, a2, a3, a4, a5, a6, a7, a8] st mem := ke_if_eq dX3_fitting_5 rfl
theorem eX3_fitting_8 : ev X m_X3_fitting 8 [a0, a1, a2, a3, a4, a5, a6, a7, a8] st mem = ev X m_X3_fitting 10 [a0, a1, a2, a3, a4, a5, a6, a7, a8] (vI 10 :: st) mem := ke_bipush (by decide) dX3_fitting_8
theorem eX3_fitting_10 : ev X m_X3_fitting 10 [a0, a1, a2, a3, a4, a5, a6, a7, a8] st mem = ev X m_X3_fitting 15 [a0, a1, a2, a3, a4, a5, a6, a7, a8] st mem := ke_goto dX3_fitting_10 rfl
theorem eX3_fitting_13 : ev X m_X3_fitting 13 [a0, a1, a2, a3, a4, a5, a6, a7, a8] st mem = ev X m_X3_fitting 15 [a0, a1, a2, a3, a4, a5, a6, a7, a8] (vI 6 :: st) mem := ke_bipush (by decide) dX3_fitting_13
theorem eX3_fitting_15 : ev X m_X3_fitting 15 [a0, a1, a2, a3, a4, a5, a6, a7, a8] (vI x :: st) mem = ev X m_X3_fitting 17 [a0, a1, a2, a3, a4, a5, a6, vI x, a8] st mem := ke_istore (Nat.le_of_ble_eq_true rfl) rfl dX3_fitting_15
theorem eX3_fitting_17 : ev X m_X3_fitting 17 [a0, a1, a2, a3, a4, a5, a6, a7, a8] st mem = ev X m_X3_fitting 18 [a0, a1, a2, a3, a4, a5, a6, a7, a8] (vI 0 :: st) mem := ke_iconst (by decide) dX3_fitting_17
theorem eX3_fitting_18 : ev X m_X3_fitting 18 [a0, a1, a2, a3, a4, a5, a6, a7, a8] (vI x :: st) mem = ev X m_X3_fitting 20 [a0, a1, a2, a3, a4, a5, a6, a7, vI x] st mem := ke_istore (Nat.le_of_ble_eq_true rfl) rfl dX3_fitting_18
theorem eX3_fitting_20 : ev X m_X3_fitting 20 [a0, a1, a2, a3, a4, a5, a6, a7, vI x] st mem = ev X m_X3_fitting 22 [a0, a1, a2, a3, a4, a5, a6, a7, vI x] (vI x :: st) mem := ke_iload rfl dX3_fitting_20
theorem eX3_fitting_22 : ev X m_X3_fitting 22 [a0, a1, a2, a3, a4, a5, a6, vI x, a8] st mem = ev X m_X3_fitting 24 [a0, a1, a2, a3, a4, a5, a6, vI x, a8] (vI x :: st) mem := ke_iload rfl dX3_fitting_22
theorem eX3_fitting_24 : ev X m_X3_fitting 24 [a0, a1, a2, a3, a4, a5, a6, a7, a8] (vI y :: vI x :: st) mem = if x < y then ev X m_X3_fitting 27 [a0, a1, a2, a3, a4, a5, a6, a7, a8] st mem else ev X m_X3_fitting 98 [a0, a1, a2, a3, a4, a5, a6, a7, a8] st mem := ke_icmp_ge dX3_fitting_24 rfl
theorem eX3_fitting_27 : ev X m_X3_fitting 27 [a0, vR r, a2, a3, a4, a5, a6, a7, a8] st mem = ev X m_X3_fitting 28 [a0, vR r, a2, a3, a4, a5, a6, a7, a8] (vR r :: st) mem := ke_aload_n rfl dX3_fitting_27
theorem eX3_fitting_28 : ev X m_X3_fitting 28 [a0, a1, a2, vI x, a4, a5, a6, a7, a8] st mem = ev X m_X3_fitting 29 [a0, a1, a2, vI x, a4, a5, a6, a7, a8] (vI x :: st) mem := ke_iload_n rfl dX3_fitting_28
theorem eX3_fitting_29 : ev X m_X3_fitting 29 [a0, a1, a2, a3, a4, a5, a6, a7, a8] (vI n0 :: vR r :: []) mem = evc X (gR mem r 0 (ev X m_X0_hasPerson 0 [vR r, vI n0] [] mem)) m_X3_fitting 32 [a0, a1, a2, a3, a4, a5, a6, a7, a8] [] := ke_callV (m' := m_X0_hasPerson) (as := [vI n0]) (n := 1) (rest := []) dX3_fitting_29 rfl rfl rfl rfl rfl rfl (Nat.le_of_ble_eq_true rfl) (Nat.le_of_ble_eq_true rfl) (Nat.le_of_ble_eq_true rfl) rfl
theorem eX3_fitting_32 : ev X m_X3_fitting 32 [a0, a1, a2, a3, a4, a5, a6, a7, a8] (vI x :: st) mem = if x = 0 then ev X m_X3_fitting 98 [a0, a1, a2, a3, a4, a5, a6, a7, a8] st mem else ev X m_X3_fitting 35 [a0, a1, a2, a3, a4, a5, a6, a7, a8] st mem := ke_if_eq dX3_fitting_32 rfl
theorem eX3_fitting_35 : ev X m_X3_fitting 35 [vR r, a1, a2, a3, a4, a5, a6, a7, a8] st mem = ev X m_X3_fitting 36 [vR r, a1, a2, a3, a4, a5, a6, a7, a8] (vR r :: st) mem := ke_aload_n rfl dX3_fitting_35
theorem eX3_fitting_36 : ev X m_X3_fitting 36 [a0, a1, a2, a3, a4, a5, a6, a7, a8] (vR r :: st) mem = evb X (fget mem r 3 0) m_X3_fitting 39 [a0, a1, a2, a3, a4, a5, a6, a7, a8] st mem := ke_getf rfl dX3_fitting_36
theorem eX3_fitting_39 : ev X m_X3_fitting 39 [a0, vR r, a2, a3, a4, a5, a6, a7, a8] st mem = ev X m_X3_fitting 40 [a0, vR r, a2, a3, a4, a5, a6, a7, a8] (vR r :: st) mem := ke_aload_n rfl dX3_fitting_39
theorem eX3_fitting_40 : ev X m_X3_fitting 40 [a0, a1, a2, a3, a4, a5, a6, a7, a8] (vR r0 :: vR r :: []) mem = evc X (gR mem r 0 (ev X m_X0_become 0 [vR r, vR r0] [] mem)) m_X3_fitting 43 [a0, a1, a2, a3, a4, a5, a6, a7, a8] [] := ke_callV (m' := m_X0_become) (as := [vR r0]) (n := 1) (rest := []) dX3_fitting_40 rfl rfl rfl rfl rfl rfl (Nat.le_of_ble_eq_true rfl) (Nat.le_of_ble_eq_true rfl) (Nat.le_of_ble_eq_true rfl) rfl
theorem eX3_fitting_43 : ev X m_X3_fitting 43 [a0, a1, a2, a3, vI x, a5, a6, a7, a8] st mem = ev X m_X3_fitting 45 [a0, a1, a2, a3, vI x, a5, a6, a7, a8] (vI x :: st) mem := ke_iload rfl dX3_fitting_43
theorem eX3_fitting_45 : ev X m_X3_fitting 45 [a0, a1, a2, a3, a4, a5, a6, a7, a8] (vI x :: st) mem = if x = 0 then ev X m_X3_fitting 62 [a0, a1, a2, a3, a4, a5, a6, a7, a8] st mem else ev X m_X3_fitting 48 [a0, a1, a2, a3, a4, a5, a6, a7, a8] st mem := ke_if_eq dX3_fitting_45 rfl
theorem eX3_fitting_48 : ev X m_X3_fitting 48 [vR r, a1, a2, a3, a4, a5, a6, a7, a8] st mem = ev X m_X3_fitting 49 [vR r, a1, a2, a3, a4, a5, a6, a7, a8] (vR r :: st) mem := ke_aload_n rfl dX3_fitting_48
theorem eX3_fitting_49 : ev X m_X3_fitting 49 [a0, a1, a2, a3, a4, a5, a6, a7, a8] (vR r :: st) mem = evb X (fget mem r 3 0) m_X3_fitting 52 [a0, a1, a2, a3, a4, a5, a6, a7, a8] st mem := ke_getf rfl dX3_fitting_49
theorem eX3_fitting_52 : ev X m_X3_fitting 52 [a0, a1, a2, a3, a4, a5, a6, a7, a8] (vR r :: st) mem = evb X (fget mem r 0 4) m_X3_fitting 55 [a0, a1, a2, a3, a4, a5, a6, a7, a8] st mem := ke_getf rfl dX3_fitting_52
theorem eX3_fitting_55 : ev X m_X3_fitting 55 [a0, a1, a2, vI x, a4, a5, a6, a7, a8] st mem = ev X m_X3_fitting 56 [a0, a1, a2, vI x, a4, a5, a6, a7, a8] (vI x :: st) mem := ke_iload_n rfl dX3_fitting_55
theorem eX3_fitting_56 : ev X m_X3_fitting 56 [a0, a1, a2, a3, a4, a5, a6, a7, vI x] st mem = ev X m_X3_fitting 58 [a0, a1, a2, a3, a4, a5, a6, a7, vI x] (vI x :: st) mem := ke_iload rfl dX3_fitting_56
theorem eX3_fitting_58 : ev X m_X3_fitting 58 [a0, a1, a2, a3, a4, a5, a6, a7, a8] (vI y :: vI x :: vR r :: st) mem = evm X (aput mem r x y) m_X3_fitting 59 [a0, a1, a2, a3, a4, a5, a6, a7, a8] st := ke_iastore dX3_fitting_58
theorem eX3_fitting_59 : ev X m_X3_fitting 59 [a0, a1, a2, a3, a4, a5, a6, a7, a8] st mem = ev X m_X3_fitting 73 [a0, a1, a2, a3, a4, a5, a6, a7, a8] st mem := ke_goto dX3_fitting_59 rfl
theorem eX3_fitting_62 : ev X m_X3_fitting 62 [vR r, a1, a2, a3, a4, a5, a6, a7, a8] st mem = ev X m_X3_fitting 63 [vR r, a1, a2, a3, a4, a5, a6, a7, a8] (vR r :: st) mem := ke_aload_n rfl dX3_fitting_62
theorem eX3_fitting_63 : ev X m_X3_fitting 63 [a0, a1, a2, a3, a4, a5, a6, a7, a8] (vR r :: st) mem = evb X (fget mem r 3 0) m_X3_fitting 66 [a0, a1, a2, a3, a4, a5, a6, a7, a8] st mem := ke_getf rfl dX3_fitting_63
theorem eX3_fitting_66 : ev X m_X3_fitting 66 [a0, a1, a2, a3, a4, a5, a6, a7, a8] (vR r :: st) mem = evb X (fget mem r 0 3) m_X3_fitting 69 [a0, a1, a2, a3, a4, a5, a6, a7, a8] st mem := ke_getf rfl dX3_fitting_66
theorem eX3_fitting_69 : ev X m_X3_fitting 69 [a0, a1, a2, vI x, a4, a5, a6, a7, a8] st mem = ev X m_X3_fitting 70 [a0, a1, a2, vI x, a4, a5, a6, a7, a8] (vI x :: st) mem := ke_iload_n rfl dX3_fitting_69
theorem eX3_fitting_70 : ev X m_X3_fitting 70 [a0, a1, a2, a3, a4, a5, a6, a7, vI x] st mem = ev X m_X3_fitting 72 [a0, a1, a2, a3, a4, a5, a6, a7, vI x] (vI x :: st) mem := ke_iload rfl dX3_fitting_70
theorem eX3_fitting_72 : ev X m_X3_fitting 72 [a0, a1, a2, a3, a4, a5, a6, a7, a8] (vI y :: vI x :: vR r :: st) mem = evm X (aput mem r x y) m_X3_fitting 73 [a0, a1, a2, a3, a4, a5, a6, a7, a8] st := ke_iastore dX3_fitting_72
theorem eX3_fitting_73 : ev X m_X3_fitting 73 [vR r, a1, a2, a3, a4, a5, a6, a7, a8] st mem = ev X m_X3_fitting 74 [vR r, a1, a2, a3, a4, a5, a6, a7, a8] (vR r :: st) mem := ke_aload_n rfl dX3_fitting_73
theorem eX3_fitting_74 : ev X m_X3_fitting 74 [a0, a1, vI x, a3, a4, a5, a6, a7, a8] st mem = ev X m_X3_fitting 75 [a0, a1, vI x, a3, a4, a5, a6, a7, a8] (vI x :: st) mem := ke_iload_n rfl dX3_fitting_74
theorem eX3_fitting_75 : ev X m_X3_fitting 75 [a0, a1, a2, a3, a4, vR r, a6, a7, a8] st mem = ev X m_X3_fitting 77 [a0, a1, a2, a3, a4, vR r, a6, a7, a8] (vR r :: st) mem := ke_aload rfl dX3_fitting_75
theorem eX3_fitting_77 : ev X m_X3_fitting 77 [a0, a1, a2, a3, a4, a5, a6, a7, a8] (vR r1 :: vI n0 :: vR r :: []) mem = evc X (gR mem r 3 (ev X m_X3_goesAsTold 0 [vR r, vI n0, vR r1, vS] [] mem)) m_X3_fitting 80 [a0, a1, a2, a3, a4, a5, a6, a7, a8] [] := ke_callV (m' := m_X3_goesAsTold) (as := [vI n0, vR r1]) (n := 2) (rest := []) dX3_fitting_77 rfl rfl rfl rfl rfl rfl (Nat.le_of_ble_eq_true rfl) (Nat.le_of_ble_eq_true rfl) (Nat.le_of_ble_eq_true rfl) rfl
theorem eX3_fitting_80 : ev X m_X3_fitting 80 [a0, a1, a2, a3, a4, a5, a6, a7, a8] (vI x :: st) mem = if x = 0 then ev X m_X3_fitting 92 [a0, a1, a2, a3, a4, a5, a6, a7, a8] st mem else ev X m_X3_fitting 83 [a0, a1, a2, a3, a4, a5, a6, a7, a8] st mem := ke_if_eq dX3_fitting_80 rfl
theorem eX3_fitting_83 : ev X m_X3_fitting 83 [a0, a1, a2, a3, a4, a5, vI x, a7, a8] st mem = ev X m_X3_fitting 85 [a0, a1, a2, a3, a4, a5, vI x, a7, a8] (vI x :: st) mem := ke_iload rfl dX3_fitting_83
theorem eX3_fitting_85 : ev X m_X3_fitting 85 [a0, a1, a2, a3, a4, a5, a6, a7, a8] st mem = ev X m_X3_fitting 86 [a0, a1, a2, a3, a4, a5, a6, a7, a8] (vI 1 :: st) mem := ke_iconst (by decide) dX3_fitting_85
theorem eX3_fitting_86 : ev X m_X3_fitting 86 [a0, a1, a2, a3, a4, a5, a6, a7, vI x] st mem = ev X m_X3_fitting 88 [a0, a1, a2, a3, a4, a5, a6, a7, vI x] (vI x :: st) mem := ke_iload rfl dX3_fitting_86
theorem eX3_fitting_88 : ev X m_X3_fitting 88 [a0, a1, a2, a3, a4, a5, a6, a7, a8] (vI y :: vI x :: st) mem = ev X m_X3_fitting 89 [a0, a1, a2, a3, a4, a5, a6, a7, a8] (vI (shl32 x y) :: st) mem := ke_ishl dX3_fitting_88
theorem eX3_fitting_89 : ev X m_X3_fitting 89 [a0, a1, a2, a3, a4, a5, a6, a7, a8] (vI y :: vI x :: st) mem = ev X m_X3_fitting 90 [a0, a1, a2, a3, a4, a5, a6, a7, a8] (vI (or32 x y) :: st) mem := ke_ior dX3_fitting_89
theorem eX3_fitting_90 : ev X m_X3_fitting 90 [a0, a1, a2, a3, a4, a5, a6, a7, a8] (vI x :: st) mem = ev X m_X3_fitting 92 [a0, a1, a2, a3, a4, a5, vI x, a7, a8] st mem := ke_istore (Nat.le_of_ble_eq_true rfl) rfl dX3_fitting_90
theorem eX3_fitting_92 : ev X m_X3_fitting 92 [a0, a1, a2, a3, a4, a5, a6, a7, vI x] st mem = ev X m_X3_fitting 95 [a0, a1, a2, a3, a4, a5, a6, a7, vI (w32 (x + 1))] st mem := ke_iinc rfl (Nat.le_of_ble_eq_true rfl) rfl dX3_fitting_92
theorem eX3_fitting_95 : ev X m_X3_fitting 95 [a0, a1, a2, a3, a4, a5, a6, a7, a8] st mem = ev X m_X3_fitting 20 [a0, a1, a2, a3, a4, a5, a6, a7, a8] st mem := ke_goto dX3_fitting_95 rfl
theorem eX3_fitting_98 : ev X m_X3_fitting 98 [a0, a1, a2, a3, a4, a5, vI x, a7, a8] st mem = ev X m_X3_fitting 100 [a0, a1, a2, a3, a4, a5, vI x, a7, a8] (vI x :: st) mem := ke_iload rfl dX3_fitting_98
theorem eX3_fitting_100 : ev X m_X3_fitting 100 [a0, a1, a2, a3, a4, a5, a6, a7, a8] [vI x] mem = some (some (vI x), mem) := ke_ireturn dX3_fitting_100 rfl
theorem eX3_goesAsTold_0 : ev X m_X3_goesAsTold 0 [a0, a1, a2, a3] st mem = ev X m_X3_goesAsTold 1 [a0, a1, a2, a3] (vI 0 :: st) mem := ke_iconst (by decide) dX3_goesAsTold_0
theorem eX3_goesAsTold_1 : ev X m_X3_goesAsTold 1 [a0, a1, a2, a3] (vI x :: st) mem = ev X m_X3_goesAsTold 2 [a0, a1, a2, vI x] st mem := ke_istore_n (Nat.le_of_ble_eq_true rfl) rfl dX3_goesAsTold_1
theorem eX3_goesAsTold_2 : ev X m_X3_goesAsTold 2 [a0, a1, a2, vI x] st mem = ev X m_X3_goesAsTold 3 [a0, a1, a2, vI x] (vI x :: st) mem := ke_iload_n rfl dX3_goesAsTold_2
theorem eX3_goesAsTold_3 : ev X m_X3_goesAsTold 3 [a0, a1, vR r, a3] st mem = ev X m_X3_goesAsTold 4 [a0, a1, vR r, a3] (vR r :: st) mem := ke_aload_n rfl dX3_goesAsTold_3
theorem eX3_goesAsTold_4 : ev X m_X3_goesAsTold 4 [a0, a1, a2, a3] (vR r :: st) mem = evb X (fget mem r 1 0) m_X3_goesAsTold 7 [a0, a1, a2, a3] st mem := ke_getf rfl dX3_goesAsTold_4
theorem eX3_goesAsTold_7 : ev X m_X3_goesAsTold 7 [a0, a1, a2, a3] (vI y :: vI x :: st) mem = if x < y then ev X m_X3_goesAsTold 10 [a0, a1, a2, a3] st mem else ev X m_X3_goesAsTold 45 [a0, a1, a2, a3] st mem := ke_icmp_ge dX3_goesAsTold_7 rfl
theorem eX3_goesAsTold_10 : ev X m_X3_goesAsTold 10 [a0, a1, vR r, a3] st mem = ev X m_X3_goesAsTold 11 [a0, a1, vR r, a3] (vR r :: st) mem := ke_aload_n rfl dX3_goesAsTold_10
theorem eX3_goesAsTold_11 : ev X m_X3_goesAsTold 11 [a0, a1, a2, vI x] st mem = ev X m_X3_goesAsTold 12 [a0, a1, a2, vI x] (vI x :: st) mem := ke_iload_n rfl dX3_goesAsTold_11
theorem eX3_goesAsTold_12 : ev X m_X3_goesAsTold 12 [a0, a1, a2, a3] (vI n0 :: vR r :: []) mem = evc X (gR mem r 1 (ev X m_X1_at 0 [vR r, vI n0] [] mem)) m_X3_goesAsTold 15 [a0, a1, a2, a3] [] := ke_callV (m' := m_X1_at) (as := [vI n0]) (n := 1) (rest := []) dX3_goesAsTold_12 rfl rfl rfl rfl rfl rfl (Nat.le_of_ble_eq_true rfl) (Nat.le_of_ble_eq_true rfl) (Nat.le_of_ble_eq_true rfl) rfl
theorem eX3_goesAsTold_15 : ev X m_X3_goesAsTold 15 [vR r, a1, a2, a3] st mem = ev X m_X3_goesAsTold 16 [vR r, a1, a2, a3] (vR r :: st) mem := ke_aload_n rfl dX3_goesAsTold_15
theorem eX3_goesAsTold_16 : ev X m_X3_goesAsTold 16 [a0, a1, a2, a3] (vR r :: st) mem = evb X (fget mem r 3 0) m_X3_goesAsTold 19 [a0, a1, a2, a3] st mem := ke_getf rfl dX3_goesAsTold_16
theorem eX3_goesAsTold_19 : ev X m_X3_goesAsTold 19 [a0, vI x, a2, a3] st mem = ev X m_X3_goesAsTold 20 [a0, vI x, a2, a3] (vI x :: st) mem := ke_iload_n rfl dX3_goesAsTold_19
theorem eX3_goesAsTold_20 : ev X m_X3_goesAsTold 20 [a0, a1, a2, a3] (vI n0 :: vR r :: [s0]) mem = evc X (gR mem r 0 (ev X m_X0_carrierOf 0 [vR r, vI n0] [] mem)) m_X3_goesAsTold 23 [a0, a1, a2, a3] [s0] := ke_callV (m' := m_X0_carrierOf) (as := [vI n0]) (n := 1) (rest := [s0]) dX3_goesAsTold_20 rfl rfl rfl rfl rfl rfl (Nat.le_of_ble_eq_true rfl) (Nat.le_of_ble_eq_true rfl) (Nat.le_of_ble_eq_true rfl) rfl
theorem eX3_goesAsTold_23 : ev X m_X3_goesAsTold 23 [a0, a1, a2, a3] (vI n0 :: [s0]) mem = evc X (ev X m_X4_asTold 0 [vI n0] [] mem) m_X3_goesAsTold 26 [a0, a1, a2, a3] [s0] := ke_callS (m' := m_X4_asTold) (as := [vI n0]) (n := 1) (rest := [s0]) dX3_goesAsTold_23 rfl (by decide) rfl rfl rfl rfl rfl (Nat.le_of_ble_eq_true rfl) (Nat.le_of_ble_eq_true rfl) rfl
theorem eX3_goesAsTold_26 : ev X m_X3_goesAsTold 26 [a0, a1, a2, a3] (vI y :: vI x :: st) mem = if x = y then ev X m_X3_goesAsTold 31 [a0, a1, a2, a3] st mem else ev X m_X3_goesAsTold 29 [a0, a1, a2, a3] st mem := ke_icmp_eq dX3_goesAsTold_26 rfl
theorem eX3_goesAsTold_29 : ev X m_X3_goesAsTold 29 [a0, a1, a2, a3] st mem = ev X m_X3_goesAsTold 30 [a0, a1, a2, a3] (vI 0 :: st) mem := ke_iconst (by decide) dX3_goesAsTold_29
theorem eX3_goesAsTold_30a : ev X m_X3_goesAsTold 30 [a0, a1, a2, a3] [vI 1] mem = some (some (vI 1), mem) := ke_zreturn dX3_goesAsTold_30 rfl rfl
theorem eX3_goesAsTold_30b : ev X m_X3_goesAsTold 30 [a0, a1, a2, a3] [vI 0] mem = some (some (vI 0), mem) := ke_zreturn dX3_goesAsTold_30 rfl rfl
theorem eX3_goesAsTold_30c {c : Prop} [Decidable c] : ev X m_X3_goesAsTold 30 [a0, a1, a2, a3] [vI (if c then 1 else 0)] mem = some (some (vI (if c then 1 else 0)), mem) := ke_zreturn dX3_goesAsTold_30 rfl (by split <;> rfl)
theorem eX3_goesAsTold_31 : ev X m_X3_goesAsTold 31 [vR r, a1, a2, a3] st mem = ev X m_X3_goesAsTold 32 [vR r, a1, a2, a3] (vR r :: st) mem := ke_aload_n rfl dX3_goesAsTold_31
theorem eX3_goesAsTold_32 : ev X m_X3_goesAsTold 32 [a0, a1, a2, a3] (vR r :: st) mem = evb X (fget mem r 3 0) m_X3_goesAsTold 35 [a0, a1, a2, a3] st mem := ke_getf rfl dX3_goesAsTold_32
theorem eX3_goesAsTold_35 : ev X m_X3_goesAsTold 35 [a0, a1, a2, a3] st mem = ev X m_X3_goesAsTold 36 [a0, a1, a2, a3] (vI 0 :: st) mem := ke_iconst (by decide) dX3_goesAsTold_35
theorem eX3_goesAsTold_36 : ev X m_X3_goesAsTold 36 [a0, a1, a2, a3] (vI n0 :: vR r :: []) mem = evc X (gR mem r 0 (ev X m_X0_passDay 0 [vR r, vI n0] [] mem)) m_X3_goesAsTold 39 [a0, a1, a2, a3] [] := ke_callV (m' := m_X0_passDay) (as := [vI n0]) (n := 1) (rest := []) dX3_goesAsTold_36 rfl rfl rfl rfl rfl rfl (Nat.le_of_ble_eq_true rfl) (Nat.le_of_ble_eq_true rfl) (Nat.le_of_ble_eq_true rfl) rfl
theorem eX3_goesAsTold_39 : ev X m_X3_goesAsTold 39 [a0, a1, a2, vI x] st mem = ev X m_X3_goesAsTold 42 [a0, a1, a2, vI (w32 (x + 1))] st mem := ke_iinc rfl (Nat.le_of_ble_eq_true rfl) rfl dX3_goesAsTold_39
theorem eX3_goesAsTold_42 : ev X m_X3_goesAsTold 42 [a0, a1, a2, a3] st mem = ev X m_X3_goesAsTold 2 [a0, a1, a2, a3] st mem := ke_goto dX3_goesAsTold_42 rfl
theorem eX3_goesAsTold_45 : ev X m_X3_goesAsTold 45 [a0, a1, a2, a3] st mem = ev X m_X3_goesAsTold 46 [a0, a1, a2, a3] (vI 1 :: st) mem := ke_iconst (by decide) dX3_goesAsTold_45
theorem eX3_goesAsTold_46a : ev X m_X3_goesAsTold 46 [a0, a1, a2, a3] [vI 1] mem = some (some (vI 1), mem) := ke_zreturn dX3_goesAsTold_46 rfl rfl
theorem eX3_goesAsTold_46b : ev X m_X3_goesAsTold 46 [a0, a1, a2, a3] [vI 0] mem = some (some (vI 0), mem) := ke_zreturn dX3_goesAsTold_46 rfl rfl
theorem eX3_goesAsTold_46c {c : Prop} [Decidable c] : ev X m_X3_goesAsTold 46 [a0, a1, a2, a3] [vI (if c then 1 else 0)] mem = some (some (vI (if c then 1 else 0)), mem) := ke_zreturn dX3_goesAsTold_46 rfl (by split <;> rfl)
theorem eX1_at_0 : ev X m_X1_at 0 [a0, vI x] st mem = ev X m_X1_at 1 [a0, vI x] (vI x :: st) mem := ke_iload_n rfl dX1_at_0
theorem eX1_at_1 : ev X m_X1_at 1 [a0, a1] (vI x :: st) mem = if x < 0 then ev X m_X1_at 22 [a0, a1] st mem else ev X m_X1_at 4 [a0, a1] st mem := ke_if_lt dX1_at_1 rfl
theorem eX1_at_4 : ev X m_X1_at 4 [a0, vI x] st mem = ev X m_X1_at 5 [a0, vI x] (vI x :: st) mem := ke_iload_n rfl dX1_at_4
theorem eX1_at_5 : ev X m_X1_at 5 [vR r, a1] st mem = ev X m_X1_at 6 [vR r, a1] (vR r :: st) mem := ke_aload_n rfl dX1_at_5
theorem eX1_at_6 : ev X m_X1_at 6 [a0, a1] (vR r :: st) mem = evb X (fget mem r 1 1) m_X1_at 9 [a0, a1] st mem := ke_getf rfl dX1_at_6
theorem eX1_at_9 : ev X m_X1_at 9 [a0, a1] (vR r :: st) mem = evb X (alen mem r) m_X1_at 10 [a0, a1] st mem := ke_alen dX1_at_9
theorem eX1_at_10 : ev X m_X1_at 10 [a0, a1] (vI y :: vI x :: st) mem = if x < y then ev X m_X1_at 13 [a0, a1] st mem else ev X m_X1_at 22 [a0, a1] st mem := ke_icmp_ge dX1_at_10 rfl
theorem eX1_at_13 : ev X m_X1_at 13 [vR r, a1] st mem = ev X m_X1_at 14 [vR r, a1] (vR r :: st) mem := ke_aload_n rfl dX1_at_13
theorem eX1_at_14 : ev X m_X1_at 14 [a0, a1] (vR r :: st) mem = evb X (fget mem r 1 1) m_X1_at 17 [a0, a1] st mem := ke_getf rfl dX1_at_14
theorem eX1_at_17 : ev X m_X1_at 17 [a0, vI x] st mem = ev X m_X1_at 18 [a0, vI x] (vI x :: st) mem := ke_iload_n rfl dX1_at_17
theorem eX1_at_18 : ev X m_X1_at 18 [a0, a1] (vI x :: vR r :: st) mem = evb X (aget mem r x) m_X1_at 19 [a0, a1] st mem := ke_iaload dX1_at_18
theorem eX1_at_19 : ev X m_X1_at 19 [a0, a1] st mem = ev X m_X1_at 24 [a0, a1] st mem := ke_goto dX1_at_19 rfl
theorem eX1_at_22 : ev X m_X1_at 22 [a0, a1] st mem = ev X m_X1_at 24 [a0, a1] (vI (-9) :: st) mem := ke_bipush (by decide) dX1_at_22
theorem eX1_at_24 : ev X m_X1_at 24 [a0, a1] [vI x] mem = some (some (vI x), mem) := ke_ireturn dX1_at_24 rfl
theorem eX4_asTold_0 : ev X m_X4_asTold 0 [vI x] st mem = ev X m_X4_asTold 1 [vI x] (vI x :: st) mem := ke_iload_n rfl dX4_asTold_0
theorem eX4_asTold_1 : ev X m_X4_asTold 1 [a0] (vI x :: st) mem = if x < 0 then ev X m_X4_asTold 4 [a0] st mem else ev X m_X4_asTold 9 [a0] st mem := ke_if_ge dX4_asTold_1 rfl
theorem eX4_asTold_4 : ev X m_X4_asTold 4 [a0] st mem = ev X m_X4_asTold 6 [a0] (vI 9 :: st) mem := ke_bipush (by decide) dX4_asTold_4
theorem eX4_asTold_6 : ev X m_X4_asTold 6 [a0] st mem = ev X m_X4_asTold 10 [a0] st mem := ke_goto dX4_asTold_6 rfl
theorem eX4_asTold_9 : ev X m_X4_asTold 9 [vI x] st mem = ev X m_X4_asTold 10 [vI x] (vI x :: st) mem := ke_iload_n rfl dX4_asTold_9
theorem eX4_asTold_10 : ev X m_X4_asTold 10 [a0] [vI x] mem = some (some (vI x), mem) := ke_ireturn dX4_asTold_10 rfl
theorem eX4_row_0 : ev X m_X4_row 0 [a0, vI x] st mem = ev X m_X4_row 1 [a0, vI x] (vI x :: st) mem := ke_iload_n rfl dX4_row_0
theorem eX4_row_1 : ev X m_X4_row 1 [a0, a1] (vI x :: st) mem = if x < 0 then ev X m_X4_row 4 [a0, a1] st mem else ev X m_X4_row 11 [a0, a1] st mem := ke_if_ge dX4_row_1 rfl
theorem eX4_row_4 : ev X m_X4_row 4 [vR r, a1] st mem = ev X m_X4_row 5 [vR r, a1] (vR r :: st) mem := ke_aload_n rfl dX4_row_4
theorem eX4_row_5 : ev X m_X4_row 5 [a0, a1] st mem = ev X m_X4_row 7 [a0, a1] (vI (-4) :: st) mem := ke_bipush (by decide) dX4_row_5
theorem eX4_row_7 : ev X m_X4_row 7 [a0, a1] (vI n0 :: vR r :: []) mem = evc X (gR mem r 4 (ev X m_X4_refuse 0 [vR r, vI n0] [] mem)) m_X4_row 10 [a0, a1] [] := ke_callV (m' := m_X4_refuse) (as := [vI n0]) (n := 1) (rest := []) dX4_row_7 rfl rfl rfl rfl rfl rfl (Nat.le_of_ble_eq_true rfl) (Nat.le_of_ble_eq_true rfl) (Nat.le_of_ble_eq_true rfl) rfl
theorem eX4_row_10 : ev X m_X4_row 10 [a0, a1] [vI x] mem = some (some (vI x), mem) := ke_ireturn dX4_row_10 rfl
theorem eX4_row_11 : ev X m_X4_row 11 [a0, vI x] st mem = ev X m_X4_row 12 [a0, vI x] (vI x :: st) mem := ke_iload_n rfl dX4_row_11
theorem eX4_row_12 : ev X m_X4_row 12 [a0, a1] st mem = ev X m_X4_row 14 [a0, a1] (vI 99 :: st) mem := ke_bipush (by decide) dX4_row_12
theorem eX4_row_14 : ev X m_X4_row 14 [a0, a1] (vI y :: vI x :: st) mem = if y < x then ev X m_X4_row 29 [a0, a1] st mem else ev X m_X4_row 17 [a0, a1] st mem := ke_icmp_gt dX4_row_14 rfl
theorem eX4_row_17 : ev X m_X4_row 17 [vR r, a1] st mem = ev X m_X4_row 18 [vR r, a1] (vR r :: st) mem := ke_aload_n rfl dX4_row_17
theorem eX4_row_18 : ev X m_X4_row 18 [a0, a1] (vR r :: st) mem = evb X (fget mem r 4 5) m_X4_row 21 [a0, a1] st mem := ke_getf rfl dX4_row_18
theorem eX4_row_21 : ev X m_X4_row 21 [a0, a1] (vR r :: st) mem = evb X (fget mem r 1 0) m_X4_row 24 [a0, a1] st mem := ke_getf rfl dX4_row_21
theorem eX4_row_24 : ev X m_X4_row 24 [a0, a1] st mem = ev X m_X4_row 26 [a0, a1] (vI 16 :: st) mem := ke_bipush (by decide) dX4_row_24
theorem eX4_row_26 : ev X m_X4_row 26 [a0, a1] (vI y :: vI x :: st) mem = if x < y then ev X m_X4_row 36 [a0, a1] st mem else ev X m_X4_row 29 [a0, a1] st mem := ke_icmp_lt dX4_row_26 rfl
theorem eX4_row_29 : ev X m_X4_row 29 [vR r, a1] st mem = ev X m_X4_row 30 [vR r, a1] (vR r :: st) mem := ke_aload_n rfl dX4_row_29
theorem eX4_row_30 : ev X m_X4_row 30 [a0, a1] st mem = ev X m_X4_row 32 [a0, a1] (vI (-6) :: st) mem := ke_bipush (by decide) dX4_row_30
theorem eX4_row_32 : ev X m_X4_row 32 [a0, a1] (vI n0 :: vR r :: []) mem = evc X (gR mem r 4 (ev X m_X4_refuse 0 [vR r, vI n0] [] mem)) m_X4_row 35 [a0, a1] [] := ke_callV (m' := m_X4_refuse) (as := [vI n0]) (n := 1) (rest := []) dX4_row_32 rfl rfl rfl rfl rfl rfl (Nat.le_of_ble_eq_true rfl) (Nat.le_of_ble_eq_true rfl) (Nat.le_of_ble_eq_true rfl) rfl
theorem eX4_row_35 : ev X m_X4_row 35 [a0, a1] [vI x] mem = some (some (vI x), mem) := ke_ireturn dX4_row_35 rfl
theorem eX4_row_36 : ev X m_X4_row 36 [vR r, a1] st mem = ev X m_X4_row 37 [vR r, a1] (vR r :: st) mem := ke_aload_n rfl dX4_row_36
theorem eX4_row_37 : ev X m_X4_row 37 [a0, a1] (vR r :: st) mem = evb X (fget mem r 4 5) m_X4_row 40 [a0, a1] st mem := ke_getf rfl dX4_row_37
theorem eX4_row_40 : ev X m_X4_row 40 [a0, vI x] st mem = ev X m_X4_row 41 [a0, vI x] (vI x :: st) mem := ke_iload_n rfl dX4_row_40
theorem eX4_row_41 : ev X m_X4_row 41 [a0, a1] (vI n0 :: vR r :: []) mem = evc X (gR mem r 1 (ev X m_X1_add 0 [vR r, vI n0] [] mem)) m_X4_row 44 [a0, a1] [] := ke_callV (m' := m_X1_add) (as := [vI n0]) (n := 1) (rest := []) dX4_row_41 rfl rfl rfl rfl rfl rfl (Nat.le_of_ble_eq_true rfl) (Nat.le_of_ble_eq_true rfl) (Nat.le_of_ble_eq_true rfl) rfl
theorem eX4_row_44 : ev X m_X4_row 44 [vR r, a1] st mem = ev X m_X4_row 45 [vR r, a1] (vR r :: st) mem := ke_aload_n rfl dX4_row_44
theorem eX4_row_45 : ev X m_X4_row 45 [a0, a1] (vR r :: st) mem = evb X (fget mem r 4 5) m_X4_row 48 [a0, a1] st mem := ke_getf rfl dX4_row_45
theorem eX4_row_48 : ev X m_X4_row 48 [a0, a1] (vR r :: st) mem = evb X (fget mem r 1 0) m_X4_row 51 [a0, a1] st mem := ke_getf rfl dX4_row_48
theorem eX4_row_51 : ev X m_X4_row 51 [a0, a1] [vI x] mem = some (some (vI x), mem) := ke_ireturn dX4_row_51 rfl
theorem eX1_add_0 : ev X m_X1_add 0 [vR r, a1] st mem = ev X m_X1_add 1 [vR r, a1] (vR r :: st) mem := ke_aload_n rfl dX1_add_0
theorem eX1_add_1 : ev X m_X1_add 1 [a0, a1] (vR r :: st) mem = evb X (fget mem r 1 0) m_X1_add 4 [a0, a1] st mem := ke_getf rfl dX1_add_1
theorem eX1_add_4 : ev X m_X1_add 4 [a0, a1] (vI x :: st) mem = if x < 0 then ev X m_X1_add 39 [a0, a1] st mem else ev X m_X1_add 7 [a0, a1] st mem := ke_if_lt dX1_add_4 rfl
theorem eX1_add_7 : ev X m_X1_add 7 [vR r, a1] st mem = ev X m_X1_add 8 [vR r, a1] (vR r :: st) mem := ke_aload_n rfl dX1_add_7
theorem eX1_add_8 : ev X m_X1_add 8 [a0, a1] (vR r :: st) mem = evb X (fget mem r 1 0) m_X1_add 11 [a0, a1] st mem := ke_getf rfl dX1_add_8
theorem eX1_add_11 : ev X m_X1_add 11 [vR r, a1] st mem = ev X m_X1_add 12 [vR r, a1] (vR r :: st) mem := ke_aload_n rfl dX1_add_11
theorem eX1_add_12 : ev X m_X1_add 12 [a0, a1] (vR r :: st) mem = evb X (fget mem r 1 1) m_X1_add 15 [a0, a1] st mem := ke_getf rfl dX1_add_12
theorem eX1_add_15 : ev X m_X1_add 15 [a0, a1] (vR r :: st) mem = evb X (alen mem r) m_X1_add 16 [a0, a1] st mem := ke_alen dX1_add_15
theorem eX1_add_16 : ev X m_X1_add 16 [a0, a1] (vI y :: vI x :: st) mem = if x < y then ev X m_X1_add 19 [a0, a1] st mem else ev X m_X1_add 39 [a0, a1] st mem := ke_icmp_ge dX1_add_16 rfl
theorem eX1_add_19 : ev X m_X1_add 19 [vR r, a1] st mem = ev X m_X1_add 20 [vR r, a1] (vR r :: st) mem := ke_aload_n rfl dX1_add_19
theorem eX1_add_20 : ev X m_X1_add 20 [a0, a1] (vR r :: st) mem = evb X (fget mem r 1 1) m_X1_add 23 [a0, a1] st mem := ke_getf rfl dX1_add_20
theorem eX1_add_23 : ev X m_X1_add 23 [vR r, a1] st mem = ev X m_X1_add 24 [vR r, a1] (vR r :: st) mem := ke_aload_n rfl dX1_add_23
theorem eX1_add_24 : ev X m_X1_add 24 [a0, a1] (vR r :: st) mem = evb X (fget mem r 1 0) m_X1_add 27 [a0, a1] st mem := ke_getf rfl dX1_add_24
theorem eX1_add_27 : ev X m_X1_add 27 [a0, vI x] st mem = ev X m_X1_add 28 [a0, vI x] (vI x :: st) mem := ke_iload_n rfl dX1_add_27
theorem eX1_add_28 : ev X m_X1_add 28 [a0, a1] (vI y :: vI x :: vR r :: st) mem = evm X (aput mem r x y) m_X1_add 29 [a0, a1] st := ke_iastore dX1_add_28
theorem eX1_add_29 : ev X m_X1_add 29 [vR r, a1] st mem = ev X m_X1_add 30 [vR r, a1] (vR r :: st) mem := ke_aload_n rfl dX1_add_29
theorem eX1_add_30 : ev X m_X1_add 30 [a0, a1] (vI x :: st) mem = ev X m_X1_add 31 [a0, a1] (vI x :: vI x :: st) mem := ke_dupI dX1_add_30
theorem eX1_add_30r : ev X m_X1_add 30 [a0, a1] (vR r :: st) mem = ev X m_X1_add 31 [a0, a1] (vR r :: vR r :: st) mem := ke_dupR dX1_add_30
theorem eX1_add_31 : ev X m_X1_add 31 [a0, a1] (vR r :: st) mem = evb X (fget mem r 1 0) m_X1_add 34 [a0, a1] st mem := ke_getf rfl dX1_add_31
theorem eX1_add_34 : ev X m_X1_add 34 [a0, a1] st mem = ev X m_X1_add 35 [a0, a1] (vI 1 :: st) mem := ke_iconst (by decide) dX1_add_34
theorem eX1_add_35 : ev X m_X1_add 35 [a0, a1] (vI y :: vI x :: st) mem = ev X m_X1_add 36 [a0, a1] (vI (w32 (x + y)) :: st) mem := ke_iadd dX1_add_35
theorem eX1_add_36 : ev X m_X1_add 36 [a0, a1] (vI x :: vR r :: st) mem = evm X (fput mem r 1 0 (vI x)) m_X1_add 39 [a0, a1] st := ke_putf rfl (by decide +kernel) dX1_add_36
theorem eX1_add_39 : ev X m_X1_add 39 [a0, a1] [] mem = some (none, mem) := ke_return dX1_add_39 rfl
theorem eX4_judge_0 : ev X m_X4_judge 0 [vR r, a1, a2] st mem = ev X m_X4_judge 1 [vR r, a1, a2] (vR r :: st) mem := ke_aload_n rfl dX4_judge_0
theorem eX4_judge_1 : ev X m_X4_judge 1 [a0, a1, a2] (vR r :: st) mem = evb X (fget mem r 4 5) m_X4_judge 4 [a0, a1, a2] st mem := ke_getf rfl dX4_judge_1
theorem eX4_judge_4 : ev X m_X4_judge 4 [a0, a1, a2] (vR r :: st) mem = evb X (fget mem r 1 0) m_X4_judge 7 [a0, a1, a2] st mem := ke_getf rfl dX4_judge_4
theorem eX4_judge_7 : ev X m_X4_judge 7 [a0, a1, a2] (vI x :: st) mem = ev X m_X4_judge 8 [a0, vI x, a2] st mem := ke_istore_n (Nat.le_of_ble_eq_true rfl) rfl dX4_judge_7
theorem eX4_judge_8 : ev X m_X4_judge 8 [vR r, a1, a2] st mem = ev X m_X4_judge 9 [vR r, a1, a2] (vR r :: st) mem := ke_aload_n rfl dX4_judge_8
theorem eX4_judge_9 : ev X m_X4_judge 9 [a0, a1, a2] (vR r :: st) mem = evb X (fget mem r 4 5) m_X4_judge 12 [a0, a1, a2] st mem := ke_getf rfl dX4_judge_9
theorem eX4_judge_12 : ev X m_X4_judge 12 [a0, a1, a2] st mem = ev X m_X4_judge 13 [a0, a1, a2] (vI 0 :: st) mem := ke_iconst (by decide) dX4_judge_12
theorem eX4_judge_13 : ev X m_X4_judge 13 [a0, a1, a2] (vI x :: vR r :: st) mem = evm X (fput mem r 1 0 (vI x)) m_X4_judge 16 [a0, a1, a2] st := ke_putf rfl (by decide +kernel) dX4_judge_13
theorem eX4_judge_16 : ev X m_X4_judge 16 [a0, a1, a2] st mem = ev X m_X4_judge 17 [a0, a1, a2] (vI 0 :: st) mem := ke_iconst (by decide) dX4_judge_16
theorem eX4_judge_17 : ev X m_X4_judge 17 [a0, a1, a2] (vI x :: st) mem = ev X m_X4_judge 18 [a0, a1, vI x] st mem := ke_istore_n (Nat.le_of_ble_eq_true rfl) rfl dX4_judge_17
theorem eX4_judge_18 : ev X m_X4_judge 18 [a0, a1, vI x] st mem = ev X m_X4_judge 19 [a0, a1, vI x] (vI x :: st) mem := ke_iload_n rfl dX4_judge_18
theorem eX4_judge_19 : ev X m_X4_judge 19 [a0, vI x, a2] st mem = ev X m_X4_judge 20 [a0, vI x, a2] (vI x :: st) mem := ke_iload_n rfl dX4_judge_19
theorem eX4_judge_20 : ev X m_X4_judge 20 [a0, a1, a2] (vI y :: vI x :: st) mem = if x < y then ev X m_X4_judge 23 [a0, a1, a2] st mem else ev X m_X4_judge 66 [a0, a1, a2] st mem := ke_icmp_ge dX4_judge_20 rfl
theorem eX4_judge_23 : ev X m_X4_judge 23 [vR r, a1, a2] st mem = ev X m_X4_judge 24 [vR r, a1, a2] (vR r :: st) mem := ke_aload_n rfl dX4_judge_23
theorem eX4_judge_24 : ev X m_X4_judge 24 [a0, a1, a2] (vR r :: st) mem = evb X (fget mem r 4 0) m_X4_judge 27 [a0, a1, a2] st mem := ke_getf rfl dX4_judge_24
theorem eX4_judge_27 : ev X m_X4_judge 27 [a0, a1, vI x] st mem = ev X m_X4_judge 28 [a0, a1, vI x] (vI x :: st) mem := ke_iload_n rfl dX4_judge_27
theorem eX4_judge_28 : ev X m_X4_judge 28 [a0, a1, a2] (vI n0 :: vR r :: []) mem = evc X (gR mem r 0 (ev X m_X0_hasPerson 0 [vR r, vI n0] [] mem)) m_X4_judge 31 [a0, a1, a2] [] := ke_callV (m' := m_X0_hasPerson) (as := [vI n0]) (n := 1) (rest := []) dX4_judge_28 rfl rfl rfl rfl rfl rfl (Nat.le_of_ble_eq_true rfl) (Nat.le_of_ble_eq_true rfl) (Nat.le_of_ble_eq_true rfl) rfl
theorem eX4_judge_31 : ev X m_X4_judge 31 [a0, a1, a2] (vI x :: st) mem = if x = 0 then ev X m_X4_judge 58 [a0, a1, a2] st mem else ev X m_X4_judge 34 [a0, a1, a2] st mem := ke_if_eq dX4_judge_31 rfl
theorem eX4_judge_34 : ev X m_X4_judge 34 [vR r, a1, a2] st mem = ev X m_X4_judge 35 [vR r, a1, a2] (vR r :: st) mem := ke_aload_n rfl dX4_judge_34
theorem eX4_judge_35 : ev X m_X4_judge 35 [a0, a1, a2] (vR r :: st) mem = evb X (fget mem r 4 5) m_X4_judge 38 [a0, a1, a2] st mem := ke_getf rfl dX4_judge_35
theorem eX4_judge_38 : ev X m_X4_judge 38 [a0, a1, vI x] st mem = ev X m_X4_judge 39 [a0, a1, vI x] (vI x :: st) mem := ke_iload_n rfl dX4_judge_38
theorem eX4_judge_39 : ev X m_X4_judge 39 [a0, a1, a2] (vI n0 :: vR r :: []) mem = evc X (gR mem r 1 (ev X m_X1_at 0 [vR r, vI n0] [] mem)) m_X4_judge 42 [a0, a1, a2] [] := ke_callV (m' := m_X1_at) (as := [vI n0]) (n := 1) (rest := []) dX4_judge_39 rfl rfl rfl rfl rfl rfl (Nat.le_of_ble_eq_true rfl) (Nat.le_of_ble_eq_true rfl) (Nat.le_of_ble_eq_true rfl) rfl
theorem eX4_judge_42 : ev X m_X4_judge 42 [vR r, a1, a2] st mem = ev X m_X4_judge 43 [vR r, a1, a2] (vR r :: st) mem := ke_aload_n rfl dX4_judge_42
theorem eX4_judge_43 : ev X m_X4_judge 43 [a0, a1, a2] (vR r :: st) mem = evb X (fget mem r 4 0) m_X4_judge 46 [a0, a1, a2] st mem := ke_getf rfl dX4_judge_43
theorem eX4_judge_46 : ev X m_X4_judge 46 [a0, a1, vI x] st mem = ev X m_X4_judge 47 [a0, a1, vI x] (vI x :: st) mem := ke_iload_n rfl dX4_judge_46
theorem eX4_judge_47 : ev X m_X4_judge 47 [a0, a1, a2] st mem = ev X m_X4_judge 49 [a0, a1, a2] (vI (-9) :: st) mem := ke_bipush (by decide) dX4_judge_47
theorem eX4_judge_49 : ev X m_X4_judge 49 [a0, a1, a2] (vI n1 :: vI n0 :: vR r :: [s0]) mem = evc X (gR mem r 0 (ev X m_X0_enemyOf 0 [vR r, vI n0, vI n1, vS, vS, vS, vS] [] mem)) m_X4_judge 52 [a0, a1, a2] [s0] := ke_callV (m' := m_X0_enemyOf) (as := [vI n0, vI n1]) (n := 2) (rest := [s0]) dX4_judge_49 rfl rfl rfl rfl rfl rfl (Nat.le_of_ble_eq_true rfl) (Nat.le_of_ble_eq_true rfl) (Nat.le_of_ble_eq_true rfl) rfl
theorem eX4_judge_52 : ev X m_X4_judge 52 [a0, a1, a2] (vI n0 :: [s0]) mem = evc X (ev X m_X4_asTold 0 [vI n0] [] mem) m_X4_judge 55 [a0, a1, a2] [s0] := ke_callS (m' := m_X4_asTold) (as := [vI n0]) (n := 1) (rest := [s0]) dX4_judge_52 rfl (by decide) rfl rfl rfl rfl rfl (Nat.le_of_ble_eq_true rfl) (Nat.le_of_ble_eq_true rfl) rfl
theorem eX4_judge_55 : ev X m_X4_judge 55 [a0, a1, a2] (vI y :: vI x :: st) mem = if x = y then ev X m_X4_judge 60 [a0, a1, a2] st mem else ev X m_X4_judge 58 [a0, a1, a2] st mem := ke_icmp_eq dX4_judge_55 rfl
theorem eX4_judge_58 : ev X m_X4_judge 58 [a0, a1, vI x] st mem = ev X m_X4_judge 59 [a0, a1, vI x] (vI x :: st) mem := ke_iload_n rfl dX4_judge_58
theorem eX4_judge_59 : ev X m_X4_judge 59 [a0, a1, a2] [vI x] mem = some (some (vI x), mem) := ke_ireturn dX4_judge_59 rfl
theorem eX4_judge_60 : ev X m_X4_judge 60 [a0, a1, vI x] st mem = ev X m_X4_judge 63 [a0, a1, vI (w32 (x + 1))] st mem := ke_iinc rfl (Nat.le_of_ble_eq_true rfl) rfl dX4_judge_60
theorem eX4_judge_63 : ev X m_X4_judge 63 [a0, a1, a2] st mem = ev X m_X4_judge 18 [a0, a1, a2] st mem := ke_goto dX4_judge_63 rfl
theorem eX4_judge_66 : ev X m_X4_judge 66 [a0, a1, a2] st mem = ev X m_X4_judge 68 [a0, a1, a2] (vI (-9) :: st) mem := ke_bipush (by decide) dX4_judge_66
theorem eX4_judge_68 : ev X m_X4_judge 68 [a0, a1, a2] [vI x] mem = some (some (vI x), mem) := ke_ireturn dX4_judge_68 rfl
theorem eX4_clear_0 : ev X m_X4_clear 0 [vR r, a1] st mem = ev X m_X4_clear 1 [vR r, a1] (vR r :: st) mem := ke_aload_n rfl dX4_clear_0
theorem eX4_clear_1 : ev X m_X4_clear 1 [a0, a1] (vR r :: st) mem = evb X (fget mem r 4 5) m_X4_clear 4 [a0, a1] st mem := ke_getf rfl dX4_clear_1
theorem eX4_clear_4 : ev X m_X4_clear 4 [a0, a1] (vR r :: st) mem = evb X (fget mem r 1 0) m_X4_clear 7 [a0, a1] st mem := ke_getf rfl dX4_clear_4
theorem eX4_clear_7 : ev X m_X4_clear 7 [a0, a1] (vI x :: st) mem = ev X m_X4_clear 8 [a0, vI x] st mem := ke_istore_n (Nat.le_of_ble_eq_true rfl) rfl dX4_clear_7
theorem eX4_clear_8 : ev X m_X4_clear 8 [vR r, a1] st mem = ev X m_X4_clear 9 [vR r, a1] (vR r :: st) mem := ke_aload_n rfl dX4_clear_8
theorem eX4_clear_9 : ev X m_X4_clear 9 [a0, a1] (vR r :: st) mem = evb X (fget mem r 4 5) m_X4_clear 12 [a0, a1] st mem := ke_getf rfl dX4_clear_9
theorem eX4_clear_12 : ev X m_X4_clear 12 [a0, a1] st mem = ev X m_X4_clear 13 [a0, a1] (vI 0 :: st) mem := ke_iconst (by decide) dX4_clear_12
theorem eX4_clear_13 : ev X m_X4_clear 13 [a0, a1] (vI x :: vR r :: st) mem = evm X (fput mem r 1 0 (vI x)) m_X4_clear 16 [a0, a1] st := ke_putf rfl (by decide +kernel) dX4_clear_13
theorem eX4_clear_16 : ev X m_X4_clear 16 [a0, vI x] st mem = ev X m_X4_clear 17 [a0, vI x] (vI x :: st) mem := ke_iload_n rfl dX4_clear_16
theorem eX4_clear_17 : ev X m_X4_clear 17 [a0, a1] [vI x] mem = some (some (vI x), mem) := ke_ireturn dX4_clear_17 rfl
theorem eX4_lots_0 : ev X m_X4_lots 0 [a0, vI x, a2, a3] st mem = ev X m_X4_lots 1 [a0, vI x, a2, a3] (vI x :: st) mem := ke_iload_n rfl dX4_lots_0
theorem eX4_lots_1 : ev X m_X4_lots 1 [a0, a1, a2, a3] st mem = ev X m_X4_lots 2 [a0, a1, a2, a3] (vI 1 :: st) mem := ke_iconst (by decide) dX4_lots_1
theorem eX4_lots_2 : ev X m_X4_lots 2 [a0, a1, a2, a3] (vI y :: vI x :: st) mem = if x < y then ev X m_X4_lots 5 [a0, a1, a2, a3] st mem else ev X m_X4_lots 12 [a0, a1, a2, a3] st mem := ke_icmp_ge dX4_lots_2 rfl
theorem eX4_lots_5 : ev X m_X4_lots 5 [vR r, a1, a2, a3] st mem = ev X m_X4_lots 6 [vR r, a1, a2, a3] (vR r :: st) mem := ke_aload_n rfl dX4_lots_5
theorem eX4_lots_6 : ev X m_X4_lots 6 [a0, a1, a2, a3] st mem = ev X m_X4_lots 8 [a0, a1, a2, a3] (vI (-4) :: st) mem := ke_bipush (by decide) dX4_lots_6
theorem eX4_lots_8 : ev X m_X4_lots 8 [a0, a1, a2, a3] (vI n0 :: vR r :: []) mem = evc X (gR mem r 4 (ev X m_X4_refuse 0 [vR r, vI n0] [] mem)) m_X4_lots 11 [a0, a1, a2, a3] [] := ke_callV (m' := m_X4_refuse) (as := [vI n0]) (n := 1) (rest := []) dX4_lots_8 rfl rfl rfl rfl rfl rfl (Nat.le_of_ble_eq_true rfl) (Nat.le_of_ble_eq_true rfl) (Nat.le_of_ble_eq_true rfl) rfl
theorem eX4_lots_11 : ev X m_X4_lots 11 [a0, a1, a2, a3] [vI x] mem = some (some (vI x), mem) := ke_ireturn dX4_lots_11 rfl
theorem eX4_lots_12 : ev X m_X4_lots 12 [a0, vI x, a2, a3] st mem = ev X m_X4_lots 13 [a0, vI x, a2, a3] (vI x :: st) mem := ke_iload_n rfl dX4_lots_12
theorem eX4_lots_13 : ev X m_X4_lots 13 [a0, a1, a2, a3] st mem = ev X m_X4_lots 15 [a0, a1, a2, a3] (vI 20 :: st) mem := ke_bipush (by decide) dX4_lots_13
theorem eX4_lots_15 : ev X m_X4_lots 15 [a0, a1, a2, a3] (vI y :: vI x :: st) mem = if y < x then ev X m_X4_lots 18 [a0, a1, a2, a3] st mem else ev X m_X4_lots 25 [a0, a1, a2, a3] st mem := ke_icmp_le dX4_lots_15 rfl
theorem eX4_lots_18 : ev X m_X4_lots 18 [vR r, a1, a2, a3] st mem = ev X m_X4_lots 19 [vR r, a1, a2, a3] (vR r :: st) mem := ke_aload_n rfl dX4_lots_18
theorem eX4_lots_19 : ev X m_X4_lots 19 [a0, a1, a2, a3] st mem = ev X m_X4_lots 21 [a0, a1, a2, a3] (vI (-6) :: st) mem := ke_bipush (by decide) dX4_lots_19
theorem eX4_lots_21 : ev X m_X4_lots 21 [a0, a1, a2, a3] (vI n0 :: vR r :: []) mem = evc X (gR mem r 4 (ev X m_X4_refuse 0 [vR r, vI n0] [] mem)) m_X4_lots 24 [a0, a1, a2, a3] [] := ke_callV (m' := m_X4_refuse) (as := [vI n0]) (n := 1) (rest := []) dX4_lots_21 rfl rfl rfl rfl rfl rfl (Nat.le_of_ble_eq_true rfl) (Nat.le_of_ble_eq_true rfl) (Nat.le_of_ble_eq_true rfl) rfl
theorem eX4_lots_24 : ev X m_X4_lots 24 [a0, a1, a2, a3] [vI x] mem = some (some (vI x), mem) := ke_ireturn dX4_lots_24 rfl
theorem eX4_lots_25 : ev X m_X4_lots 25 [a0, a1, a2, vI x] st mem = ev X m_X4_lots 26 [a0, a1, a2, vI x] (vI x :: st) mem := ke_iload_n rfl dX4_lots_25
theorem eX4_lots_26 : ev X m_X4_lots 26 [a0, a1, a2, a3] (vI x :: st) mem = if x < 0 then ev X m_X4_lots 34 [a0, a1, a2, a3] st mem else ev X m_X4_lots 29 [a0, a1, a2, a3] st mem := ke_if_lt dX4_lots_26 rfl
theorem eX4_lots_29 : ev X m_X4_lots 29 [a0, a1, a2, vI x] st mem = ev X m_X4_lots 30 [a0, a1, a2, vI x] (vI x :: st) mem := ke_iload_n rfl dX4_lots_29
theorem eX4_lots_30 : ev X m_X4_lots 30 [a0, a1, a2, a3] st mem = ev X m_X4_lots 31 [a0, a1, a2, a3] (vI 1 :: st) mem := ke_iconst (by decide) dX4_lots_30
theorem eX4_lots_31 : ev X m_X4_lots 31 [a0, a1, a2, a3] (vI y :: vI x :: st) mem = if y < x then ev X m_X4_lots 34 [a0, a1, a2, a3] st mem else ev X m_X4_lots 41 [a0, a1, a2, a3] st mem := ke_icmp_le dX4_lots_31 rfl
theorem eX4_lots_34 : ev X m_X4_lots 34 [vR r, a1, a2, a3] st mem = ev X m_X4_lots 35 [vR r, a1, a2, a3] (vR r :: st) mem := ke_aload_n rfl dX4_lots_34
theorem eX4_lots_35 : ev X m_X4_lots 35 [a0, a1, a2, a3] st mem = ev X m_X4_lots 37 [a0, a1, a2, a3] (vI (-2) :: st) mem := ke_bipush (by decide) dX4_lots_35
theorem eX4_lots_37 : ev X m_X4_lots 37 [a0, a1, a2, a3] (vI n0 :: vR r :: []) mem = evc X (gR mem r 4 (ev X m_X4_refuse 0 [vR r, vI n0] [] mem)) m_X4_lots 40 [a0, a1, a2, a3] [] := ke_callV (m' := m_X4_refuse) (as := [vI n0]) (n := 1) (rest := []) dX4_lots_37 rfl rfl rfl rfl rfl rfl (Nat.le_of_ble_eq_true rfl) (Nat.le_of_ble_eq_true rfl) (Nat.le_of_ble_eq_true rfl) rfl
theorem eX4_lots_40 : ev X m_X4_lots 40 [a0, a1, a2, a3] [vI x] mem = some (some (vI x), mem) := ke_ireturn dX4_lots_40 rfl
theorem eX4_lots_41 : ev X m_X4_lots 41 [vR r, a1, a2, a3] st mem = ev X m_X4_lots 42 [vR r, a1, a2, a3] (vR r :: st) mem := ke_aload_n rfl dX4_lots_41
theorem eX4_lots_42 : ev X m_X4_lots 42 [a0, a1, a2, a3] (vR r :: st) mem = evb X (fget mem r 4 3) m_X4_lots 45 [a0, a1, a2, a3] st mem := ke_getf rfl dX4_lots_42
theorem eX4_lots_45 : ev X m_X4_lots 45 [vR r, a1, a2, a3] st mem = ev X m_X4_lots 46 [vR r, a1, a2, a3] (vR r :: st) mem := ke_aload_n rfl dX4_lots_45
theorem eX4_lots_46 : ev X m_X4_lots 46 [a0, a1, a2, a3] (vR r :: st) mem = evb X (fget mem r 4 0) m_X4_lots 49 [a0, a1, a2, a3] st mem := ke_getf rfl dX4_lots_46
theorem eX4_lots_49 : ev X m_X4_lots 49 [a0, vI x, a2, a3] st mem = ev X m_X4_lots 50 [a0, vI x, a2, a3] (vI x :: st) mem := ke_iload_n rfl dX4_lots_49
theorem eX4_lots_50 : ev X m_X4_lots 50 [a0, a1, vI x, a3] st mem = ev X m_X4_lots 51 [a0, a1, vI x, a3] (vI x :: st) mem := ke_iload_n rfl dX4_lots_50
theorem eX4_lots_51 : ev X m_X4_lots 51 [a0, a1, a2, vI x] st mem = ev X m_X4_lots 52 [a0, a1, a2, vI x] (vI x :: st) mem := ke_iload_n rfl dX4_lots_51
theorem eX4_lots_52 : ev X m_X4_lots 52 [a0, a1, a2, a3] st mem = ev X m_X4_lots 53 [a0, a1, a2, a3] (vI 1 :: st) mem := ke_iconst (by decide) dX4_lots_52
theorem eX4_lots_53 : ev X m_X4_lots 53 [a0, a1, a2, a3] (vI y :: vI x :: st) mem = if x = y then ev X m_X4_lots 56 [a0, a1, a2, a3] st mem else ev X m_X4_lots 60 [a0, a1, a2, a3] st mem := ke_icmp_ne dX4_lots_53 rfl
theorem eX4_lots_56 : ev X m_X4_lots 56 [a0, a1, a2, a3] st mem = ev X m_X4_lots 57 [a0, a1, a2, a3] (vI 1 :: st) mem := ke_iconst (by decide) dX4_lots_56
theorem eX4_lots_57 : ev X m_X4_lots 57 [a0, a1, a2, a3] st mem = ev X m_X4_lots 61 [a0, a1, a2, a3] st mem := ke_goto dX4_lots_57 rfl
theorem eX4_lots_60 : ev X m_X4_lots 60 [a0, a1, a2, a3] st mem = ev X m_X4_lots 61 [a0, a1, a2, a3] (vI 0 :: st) mem := ke_iconst (by decide) dX4_lots_60
theorem eX4_lots_61 : ev X m_X4_lots 61 [a0, a1, a2, a3] (vI n3 :: vI n2 :: vI n1 :: vR r0 :: vR r :: []) mem = evc X (gR mem r 3 (ev X m_X3_ofDrawnDuchies 0 [vR r, vR r0, vI n1, vI n2, vI n3, vS, vS, vS] [] mem)) m_X4_lots 64 [a0, a1, a2, a3] [] := ke_callV (m' := m_X3_ofDrawnDuchies) (as := [vR r0, vI n1, vI n2, vI n3]) (n := 4) (rest := []) dX4_lots_61 rfl rfl rfl rfl rfl rfl (Nat.le_of_ble_eq_true rfl) (Nat.le_of_ble_eq_true rfl) (Nat.le_of_ble_eq_true rfl) rfl
theorem eX4_lots_64 : ev X m_X4_lots 64 [a0, a1, a2, a3] [vI x] mem = some (some (vI x), mem) := ke_ireturn dX4_lots_64 rfl
theorem eX3_ofDrawnDuchies_0 : ev X m_X3_ofDrawnDuchies 0 [a0, a1, a2, vI x, a4, a5, a6, a7] st mem = ev X m_X3_ofDrawnDuchies 1 [a0, a1, a2, vI x, a4, a5, a6, a7] (vI x :: st) mem := ke_iload_n rfl dX3_ofDrawnDuchies_0
theorem eX3_ofDrawnDuchies_1 : ev X m_X3_ofDrawnDuchies 1 [a0, a1, a2, a3, a4, a5, a6, a7] (vI x :: st) mem = ev X m_X3_ofDrawnDuchies 3 [a0, a1, a2, a3, a4, vI x, a6, a7] st mem := ke_istore (Nat.le_of_ble_eq_true rfl) rfl dX3_ofDrawnDuchies_1
theorem eX3_ofDrawnDuchies_3 : ev X m_X3_ofDrawnDuchies 3 [a0, a1, a2, a3, a4, a5, a6, a7] st mem = ev X m_X3_ofDrawnDuchies 4 [a0, a1, a2, a3, a4, a5, a6, a7] (vI 0 :: st) mem := ke_iconst (by decide) dX3_ofDrawnDuchies_3
theorem eX3_ofDrawnDuchies_4 : ev X m_X3_ofDrawnDuchies 4 [a0, a1, a2, a3, a4, a5, a6, a7] (vI x :: st) mem = ev X m_X3_ofDrawnDuchies 6 [a0, a1, a2, a3, a4, a5, vI x, a7] st mem := ke_istore (Nat.le_of_ble_eq_true rfl) rfl dX3_ofDrawnDuchies_4
theorem eX3_ofDrawnDuchies_6 : ev X m_X3_ofDrawnDuchies 6 [a0, a1, a2, a3, a4, a5, a6, a7] st mem = ev X m_X3_ofDrawnDuchies 7 [a0, a1, a2, a3, a4, a5, a6, a7] (vI 0 :: st) mem := ke_iconst (by decide) dX3_ofDrawnDuchies_6
theorem eX3_ofDrawnDuchies_7 : ev X m_X3_ofDrawnDuchies 7 [a0, a1, a2, a3, a4, a5, a6, a7] (vI x :: st) mem = ev X m_X3_ofDrawnDuchies 9 [a0, a1, a2, a3, a4, a5, a6, vI x] st mem := ke_istore (Nat.le_of_ble_eq_true rfl) rfl dX3_ofDrawnDuchies_7
theorem eX3_ofDrawnDuchies_9 : ev X m_X3_ofDrawnDuchies 9 [a0, a1, a2, a3, a4, a5, a6, vI x] st mem = ev X m_X3_ofDrawnDuchies 11 [a0, a1, a2, a3, a4, a5, a6, vI x] (vI x :: st) mem := ke_iload rfl dX3_ofDrawnDuchies_9
theorem eX3_ofDrawnDuchies_11 : ev X m_X3_ofDrawnDuchies 11 [a0, a1, vI x, a3, a4, a5, a6, a7] st mem = ev X m_X3_ofDrawnDuchies 12 [a0, a1, vI x, a3, a4, a5, a6, a7] (vI x :: st) mem := ke_iload_n rfl dX3_ofDrawnDuchies_11
theorem eX3_ofDrawnDuchies_12 : ev X m_X3_ofDrawnDuchies 12 [a0, a1, a2, a3, a4, a5, a6, a7] (vI y :: vI x :: st) mem = if x < y then ev X m_X3_ofDrawnDuchies 15 [a0, a1, a2, a3, a4, a5, a6, a7] st mem else ev X m_X3_ofDrawnDuchies 73 [a0, a1, a2, a3, a4, a5, a6, a7] st mem := ke_icmp_ge dX3_ofDrawnDuchies_12 rfl
theorem eX3_ofDrawnDuchies_15 : ev X m_X3_ofDrawnDuchies 15 [vR r, a1, a2, a3, a4, a5, a6, a7] st mem = ev X m_X3_ofDrawnDuchies 16 [vR r, a1, a2, a3, a4, a5, a6, a7] (vR r :: st) mem := ke_aload_n rfl dX3_ofDrawnDuchies_15
theorem eX3_ofDrawnDuchies_16 : ev X m_X3_ofDrawnDuchies 16 [a0, a1, a2, a3, a4, a5, a6, a7] (vR r :: st) mem = evb X (fget mem r 3 0) m_X3_ofDrawnDuchies 19 [a0, a1, a2, a3, a4, a5, a6, a7] st mem := ke_getf rfl dX3_ofDrawnDuchies_16
theorem eX3_ofDrawnDuchies_19 : ev X m_X3_ofDrawnDuchies 19 [a0, vR r, a2, a3, a4, a5, a6, a7] st mem = ev X m_X3_ofDrawnDuchies 20 [a0, vR r, a2, a3, a4, a5, a6, a7] (vR r :: st) mem := ke_aload_n rfl dX3_ofDrawnDuchies_19
theorem eX3_ofDrawnDuchies_20 : ev X m_X3_ofDrawnDuchies 20 [a0, a1, a2, a3, a4, a5, a6, a7] (vR r0 :: vR r :: []) mem = evc X (gR mem r 0 (ev X m_X0_become 0 [vR r, vR r0] [] mem)) m_X3_ofDrawnDuchies 23 [a0, a1, a2, a3, a4, a5, a6, a7] [] := ke_callV (m' := m_X0_become) (as := [vR r0]) (n := 1) (rest := []) dX3_ofDrawnDuchies_20 rfl rfl rfl rfl rfl rfl (Nat.le_of_ble_eq_true rfl) (Nat.le_of_ble_eq_true rfl) (Nat.le_of_ble_eq_true rfl) rfl
theorem eX3_ofDrawnDuchies_23 : ev X m_X3_ofDrawnDuchies 23 [vR r, a1, a2, a3, a4, a5, a6, a7] st mem = ev X m_X3_ofDrawnDuchies 24 [vR r, a1, a2, a3, a4, a5, a6, a7] (vR r :: st) mem := ke_aload_n rfl dX3_ofDrawnDuchies_23
theorem eX3_ofDrawnDuchies_24 : ev X m_X3_ofDrawnDuchies 24 [a0, a1, a2, a3, a4, vI x, a6, a7] st mem = ev X m_X3_ofDrawnDuchies 26 [a0, a1, a2, a3, a4, vI x, a6, a7] (vI x :: st) mem := ke_iload rfl dX3_ofDrawnDuchies_24
theorem eX3_ofDrawnDuchies_26 : ev X m_X3_ofDrawnDuchies 26 [a0, a1, a2, a3, a4, a5, a6, a7] (vI n0 :: vR r :: []) mem = evc X (gR mem r 3 (ev X m_X3_drawHates 0 [vR r, vI n0, vS, vS, vS] [] mem)) m_X3_ofDrawnDuchies 29 [a0, a1, a2, a3, a4, a5, a6, a7] [] := ke_callV (m' := m_X3_drawHates) (as := [vI n0]) (n := 1) (rest := []) dX3_ofDrawnDuchies_26 rfl rfl rfl rfl rfl rfl (Nat.le_of_ble_eq_true rfl) (Nat.le_of_ble_eq_true rfl) (Nat.le_of_ble_eq_true rfl) rfl
theorem eX3_ofDrawnDuchies_29 : ev X m_X3_ofDrawnDuchies 29 [a0, a1, a2, a3, a4, a5, a6, a7] (vI x :: st) mem = ev X m_X3_ofDrawnDuchies 31 [a0, a1, a2, a3, a4, vI x, a6, a7] st mem := ke_istore (Nat.le_of_ble_eq_true rfl) rfl dX3_ofDrawnDuchies_29
theorem eX3_ofDrawnDuchies_31 : ev X m_X3_ofDrawnDuchies 31 [vR r, a1, a2, a3, a4, a5, a6, a7] st mem = ev X m_X3_ofDrawnDuchies 32 [vR r, a1, a2, a3, a4, a5, a6, a7] (vR r :: st) mem := ke_aload_n rfl dX3_ofDrawnDuchies_31
theorem eX3_ofDrawnDuchies_32 : ev X m_X3_ofDrawnDuchies 32 [a0, a1, a2, a3, a4, a5, a6, a7] (vR r :: st) mem = evb X (fget mem r 3 0) m_X3_ofDrawnDuchies 35 [a0, a1, a2, a3, a4, a5, a6, a7] st mem := ke_getf rfl dX3_ofDrawnDuchies_32
theorem eX3_ofDrawnDuchies_35 : ev X m_X3_ofDrawnDuchies 35 [a0, a1, a2, a3, a4, a5, a6, a7] st mem = ev X m_X3_ofDrawnDuchies 37 [a0, a1, a2, a3, a4, a5, a6, a7] (vI 15 :: st) mem := ke_bipush (by decide) dX3_ofDrawnDuchies_35
theorem eX3_ofDrawnDuchies_37 : ev X m_X3_ofDrawnDuchies 37 [a0, a1, a2, a3, a4, a5, a6, a7] (vI n0 :: vR r :: []) mem = evc X (gR mem r 0 (ev X m_X0_passDays 0 [vR r, vI n0, vS] [] mem)) m_X3_ofDrawnDuchies 40 [a0, a1, a2, a3, a4, a5, a6, a7] [] := ke_callV (m' := m_X0_passDays) (as := [vI n0]) (n := 1) (rest := []) dX3_ofDrawnDuchies_37 rfl rfl rfl rfl rfl rfl (Nat.le_of_ble_eq_true rfl) (Nat.le_of_ble_eq_true rfl) (Nat.le_of_ble_eq_true rfl) rfl
theorem eX3_ofDrawnDuchies_40 : ev X m_X3_ofDrawnDuchies 40 [a0, a1, a2, a3, a4, a5, vI x, a7] st mem = ev X m_X3_ofDrawnDuchies 42 [a0, a1, a2, a3, a4, a5, vI x, a7] (vI x :: st) mem := ke_iload rfl dX3_ofDrawnDuchies_40
theorem eX3_ofDrawnDuchies_42 : ev X m_X3_ofDrawnDuchies 42 [a0, a1, a2, a3, vI x, a5, a6, a7] st mem = ev X m_X3_ofDrawnDuchies 44 [a0, a1, a2, a3, vI x, a5, a6, a7] (vI x :: st) mem := ke_iload rfl dX3_ofDrawnDuchies_42
theorem eX3_ofDrawnDuchies_44 : ev X m_X3_ofDrawnDuchies 44 [a0, a1, a2, a3, a4, a5, a6, a7] (vI x :: st) mem = if x = 0 then ev X m_X3_ofDrawnDuchies 57 [a0, a1, a2, a3, a4, a5, a6, a7] st mem else ev X m_X3_ofDrawnDuchies 47 [a0, a1, a2, a3, a4, a5, a6, a7] st mem := ke_if_eq dX3_ofDrawnDuchies_44 rfl
theorem eX3_ofDrawnDuchies_47 : ev X m_X3_ofDrawnDuchies 47 [vR r, a1, a2, a3, a4, a5, a6, a7] st mem = ev X m_X3_ofDrawnDuchies 48 [vR r, a1, a2, a3, a4, a5, a6, a7] (vR r :: st) mem := ke_aload_n rfl dX3_ofDrawnDuchies_47
theorem eX3_ofDrawnDuchies_48 : ev X m_X3_ofDrawnDuchies 48 [a0, a1, a2, a3, a4, a5, a6, a7] (vR r :: st) mem = evb X (fget mem r 3 0) m_X3_ofDrawnDuchies 51 [a0, a1, a2, a3, a4, a5, a6, a7] st mem := ke_getf rfl dX3_ofDrawnDuchies_48
theorem eX3_ofDrawnDuchies_51 : ev X m_X3_ofDrawnDuchies 51 [a0, a1, a2, a3, a4, a5, a6, a7] (vR r :: [s0]) mem = evc X (gR mem r 0 (ev X m_X0_hatesTogether 0 [vR r, vS, vS] [] mem)) m_X3_ofDrawnDuchies 54 [a0, a1, a2, a3, a4, a5, a6, a7] [s0] := ke_callV (m' := m_X0_hatesTogether) (as := []) (n := 0) (rest := [s0]) dX3_ofDrawnDuchies_51 rfl rfl rfl rfl rfl rfl (Nat.le_of_ble_eq_true rfl) (Nat.le_of_ble_eq_true rfl) (Nat.le_of_ble_eq_true rfl) rfl
theorem eX3_ofDrawnDuchies_54 : ev X m_X3_ofDrawnDuchies 54 [a0, a1, a2, a3, a4, a5, a6, a7] st mem = ev X m_X3_ofDrawnDuchies 64 [a0, a1, a2, a3, a4, a5, a6, a7] st mem := ke_goto dX3_ofDrawnDuchies_54 rfl
theorem eX3_ofDrawnDuchies_57 : ev X m_X3_ofDrawnDuchies 57 [vR r, a1, a2, a3, a4, a5, a6, a7] st mem = ev X m_X3_ofDrawnDuchies 58 [vR r, a1, a2, a3, a4, a5, a6, a7] (vR r :: st) mem := ke_aload_n rfl dX3_ofDrawnDuchies_57
theorem eX3_ofDrawnDuchies_58 : ev X m_X3_ofDrawnDuchies 58 [a0, a1, a2, a3, a4, a5, a6, a7] (vR r :: st) mem = evb X (fget mem r 3 0) m_X3_ofDrawnDuchies 61 [a0, a1, a2, a3, a4, a5, a6, a7] st mem := ke_getf rfl dX3_ofDrawnDuchies_58
theorem eX3_ofDrawnDuchies_61 : ev X m_X3_ofDrawnDuchies 61 [a0, a1, a2, a3, a4, a5, a6, a7] (vR r :: [s0]) mem = evc X (gR mem r 0 (ev X m_X0_brought 0 [vR r, vS, vS] [] mem)) m_X3_ofDrawnDuchies 64 [a0, a1, a2, a3, a4, a5, a6, a7] [s0] := ke_callV (m' := m_X0_brought) (as := []) (n := 0) (rest := [s0]) dX3_ofDrawnDuchies_61 rfl rfl rfl rfl rfl rfl (Nat.le_of_ble_eq_true rfl) (Nat.le_of_ble_eq_true rfl) (Nat.le_of_ble_eq_true rfl) rfl
theorem eX3_ofDrawnDuchies_64 : ev X m_X3_ofDrawnDuchies 64 [a0, a1, a2, a3, a4, a5, a6, a7] (vI y :: vI x :: st) mem = ev X m_X3_ofDrawnDuchies 65 [a0, a1, a2, a3, a4, a5, a6, a7] (vI (w32 (x + y)) :: st) mem := ke_iadd dX3_ofDrawnDuchies_64
theorem eX3_ofDrawnDuchies_65 : ev X m_X3_ofDrawnDuchies 65 [a0, a1, a2, a3, a4, a5, a6, a7] (vI x :: st) mem = ev X m_X3_ofDrawnDuchies 67 [a0, a1, a2, a3, a4, a5, vI x, a7] st mem := ke_istore (Nat.le_of_ble_eq_true rfl) rfl dX3_ofDrawnDuchies_65
theorem eX3_ofDrawnDuchies_67 : ev X m_X3_ofDrawnDuchies 67 [a0, a1, a2, a3, a4, a5, a6, vI x] st mem = ev X m_X3_ofDrawnDuchies 70 [a0, a1, a2, a3, a4, a5, a6, vI (w32 (x + 1))] st mem := ke_iinc rfl (Nat.le_of_ble_eq_true rfl) rfl dX3_ofDrawnDuchies_67
theorem eX3_ofDrawnDuchies_70 : ev X m_X3_ofDrawnDuchies 70 [a0, a1, a2, a3, a4, a5, a6, a7] st mem = ev X m_X3_ofDrawnDuchies 9 [a0, a1, a2, a3, a4, a5, a6, a7] st mem := ke_goto dX3_ofDrawnDuchies_70 rfl
theorem eX3_ofDrawnDuchies_73 : ev X m_X3_ofDrawnDuchies 73 [a0, a1, a2, a3, a4, a5, vI x, a7] st mem = ev X m_X3_ofDrawnDuchies 75 [a0, a1, a2, a3, a4, a5, vI x, a7] (vI x :: st) mem := ke_iload rfl dX3_ofDrawnDuchies_73
theorem eX3_ofDrawnDuchies_75 : ev X m_X3_ofDrawnDuchies 75 [a0, a1, a2, a3, a4, a5, a6, a7] [vI x] mem = some (some (vI x), mem) := ke_ireturn dX3_ofDrawnDuchies_75 rfl
theorem eX3_drawHates_0 : ev X m_X3_drawHates 0 [a0, vI x, a2, a3, a4] st mem = ev X m_X3_drawHates 1 [a0, vI x, a2, a3, a4] (vI x :: st) mem := ke_iload_n rfl dX3_drawHates_0
theorem eX3_drawHates_1 : ev X m_X3_drawHates 1 [a0, a1, a2, a3, a4] (vI x :: st) mem = ev X m_X3_drawHates 2 [a0, a1, vI x, a3, a4] st mem := ke_istore_n (Nat.le_of_ble_eq_true rfl) rfl dX3_drawHates_1
theorem eX3_drawHates_2 : ev X m_X3_drawHates 2 [a0, a1, a2, a3, a4] st mem = ev X m_X3_drawHates 3 [a0, a1, a2, a3, a4] (vI 0 :: st) mem := ke_iconst (by decide) dX3_drawHates_2
theorem eX3_drawHates_3 : ev X m_X3_drawHates 3 [a0, a1, a2, a3, a4] (vI x :: st) mem = ev X m_X3_drawHates 4 [a0, a1, a2, vI x, a4] st mem := ke_istore_n (Nat.le_of_ble_eq_true rfl) rfl dX3_drawHates_3
theorem eX3_drawHates_4 : ev X m_X3_drawHates 4 [a0, a1, a2, vI x, a4] st mem = ev X m_X3_drawHates 5 [a0, a1, a2, vI x, a4] (vI x :: st) mem := ke_iload_n rfl dX3_drawHates_4
theorem eX3_drawHates_5 : ev X m_X3_drawHates 5 [vR r, a1, a2, a3, a4] st mem = ev X m_X3_drawHates 6 [vR r, a1, a2, a3, a4] (vR r :: st) mem := ke_aload_n rfl dX3_drawHates_5
theorem eX3_drawHates_6 : ev X m_X3_drawHates 6 [a0, a1, a2, a3, a4] (vR r :: st) mem = evb X (fget mem r 3 0) m_X3_drawHates 9 [a0, a1, a2, a3, a4] st mem := ke_getf rfl dX3_drawHates_6
theorem eX3_drawHates_9 : ev X m_X3_drawHates 9 [a0, a1, a2, a3, a4] (vR r :: st) mem = evb X (fget mem r 0 0) m_X3_drawHates 12 [a0, a1, a2, a3, a4] st mem := ke_getf rfl dX3_drawHates_9
theorem eX3_drawHates_12 : ev X m_X3_drawHates 12 [a0, a1, a2, a3, a4] (vI y :: vI x :: st) mem = if x < y then ev X m_X3_drawHates 15 [a0, a1, a2, a3, a4] st mem else ev X m_X3_drawHates 78 [a0, a1, a2, a3, a4] st mem := ke_icmp_ge dX3_drawHates_12 rfl
theorem eX3_drawHates_15 : ev X m_X3_drawHates 15 [a0, a1, a2, a3, a4] st mem = ev X m_X3_drawHates 16 [a0, a1, a2, a3, a4] (vI 0 :: st) mem := ke_iconst (by decide) dX3_drawHates_15
theorem eX3_drawHates_16 : ev X m_X3_drawHates 16 [a0, a1, a2, a3, a4] (vI x :: st) mem = ev X m_X3_drawHates 18 [a0, a1, a2, a3, vI x] st mem := ke_istore (Nat.le_of_ble_eq_true rfl) rfl dX3_drawHates_16
theorem eX3_drawHates_18 : ev X m_X3_drawHates 18 [a0, a1, a2, a3, vI x] st mem = ev X m_X3_drawHates 20 [a0, a1, a2, a3, vI x] (vI x :: st) mem := ke_iload rfl dX3_drawHates_18
theorem eX3_drawHates_20 : ev X m_X3_drawHates 20 [vR r, a1, a2, a3, a4] st mem = ev X m_X3_drawHates 21 [vR r, a1, a2, a3, a4] (vR r :: st) mem := ke_aload_n rfl dX3_drawHates_20
theorem eX3_drawHates_21 : ev X m_X3_drawHates 21 [a0, a1, a2, a3, a4] (vR r :: st) mem = evb X (fget mem r 3 0) m_X3_drawHates 24 [a0, a1, a2, a3, a4] st mem := ke_getf rfl dX3_drawHates_21
theorem eX3_drawHates_24 : ev X m_X3_drawHates 24 [a0, a1, a2, a3, a4] (vR r :: st) mem = evb X (fget mem r 0 0) m_X3_drawHates 27 [a0, a1, a2, a3, a4] st mem := ke_getf rfl dX3_drawHates_24
theorem eX3_drawHates_27 : ev X m_X3_drawHates 27 [a0, a1, a2, a3, a4] (vI y :: vI x :: st) mem = if x < y then ev X m_X3_drawHates 30 [a0, a1, a2, a3, a4] st mem else ev X m_X3_drawHates 72 [a0, a1, a2, a3, a4] st mem := ke_icmp_ge dX3_drawHates_27 rfl
theorem eX3_drawHates_30 : ev X m_X3_drawHates 30 [a0, a1, a2, vI x, a4] st mem = ev X m_X3_drawHates 31 [a0, a1, a2, vI x, a4] (vI x :: st) mem := ke_iload_n rfl dX3_drawHates_30
theorem eX3_drawHates_31 : ev X m_X3_drawHates 31 [a0, a1, a2, a3, vI x] st mem = ev X m_X3_drawHates 33 [a0, a1, a2, a3, vI x] (vI x :: st) mem := ke_iload rfl dX3_drawHates_31
theorem eX3_drawHates_33 : ev X m_X3_drawHates 33 [a0, a1, a2, a3, a4] (vI y :: vI x :: st) mem = if x = y then ev X m_X3_drawHates 66 [a0, a1, a2, a3, a4] st mem else ev X m_X3_drawHates 36 [a0, a1, a2, a3, a4] st mem := ke_icmp_eq dX3_drawHates_33 rfl
theorem eX3_drawHates_36 : ev X m_X3_drawHates 36 [a0, a1, vI x, a3, a4] st mem = ev X m_X3_drawHates 37 [a0, a1, vI x, a3, a4] (vI x :: st) mem := ke_iload_n rfl dX3_drawHates_36
theorem eX3_drawHates_37 : ev X m_X3_drawHates 37 [a0, a1, a2, a3, a4] st mem = ev X m_X3_drawHates 39 [a0, a1, a2, a3, a4] (vI 1664525 :: st) mem := ke_ldcI (n := 1664525) rfl (by decide) dX3_drawHates_37
theorem eX3_drawHates_39 : ev X m_X3_drawHates 39 [a0, a1, a2, a3, a4] (vI y :: vI x :: st) mem = ev X m_X3_drawHates 40 [a0, a1, a2, a3, a4] (vI (w32 (x * y)) :: st) mem := ke_imul dX3_drawHates_39
theorem eX3_drawHates_40 : ev X m_X3_drawHates 40 [a0, a1, a2, a3, a4] st mem = ev X m_X3_drawHates 42 [a0, a1, a2, a3, a4] (vI 1013904223 :: st) mem := ke_ldcI (n := 1013904223) rfl (by decide) dX3_drawHates_40
theorem eX3_drawHates_42 : ev X m_X3_drawHates 42 [a0, a1, a2, a3, a4] (vI y :: vI x :: st) mem = ev X m_X3_drawHates 43 [a0, a1, a2, a3, a4] (vI (w32 (x + y)) :: st) mem := ke_iadd dX3_drawHates_42
theorem eX3_drawHates_43 : ev X m_X3_drawHates 43 [a0, a1, a2, a3, a4] (vI x :: st) mem = ev X m_X3_drawHates 44 [a0, a1, vI x, a3, a4] st mem := ke_istore_n (Nat.le_of_ble_eq_true rfl) rfl dX3_drawHates_43
theorem eX3_drawHates_44 : ev X m_X3_drawHates 44 [vR r, a1, a2, a3, a4] st mem = ev X m_X3_drawHates 45 [vR r, a1, a2, a3, a4] (vR r :: st) mem := ke_aload_n rfl dX3_drawHates_44
theorem eX3_drawHates_45 : ev X m_X3_drawHates 45 [a0, a1, a2, a3, a4] (vR r :: st) mem = evb X (fget mem r 3 0) m_X3_drawHates 48 [a0, a1, a2, a3, a4] st mem := ke_getf rfl dX3_drawHates_45
theorem eX3_drawHates_48 : ev X m_X3_drawHates 48 [a0, a1, a2, vI x, a4] st mem = ev X m_X3_drawHates 49 [a0, a1, a2, vI x, a4] (vI x :: st) mem := ke_iload_n rfl dX3_drawHates_48
theorem eX3_drawHates_49 : ev X m_X3_drawHates 49 [a0, a1, a2, a3, vI x] st mem = ev X m_X3_drawHates 51 [a0, a1, a2, a3, vI x] (vI x :: st) mem := ke_iload rfl dX3_drawHates_49
theorem eX3_drawHates_51 : ev X m_X3_drawHates 51 [a0, a1, vI x, a3, a4] st mem = ev X m_X3_drawHates 52 [a0, a1, vI x, a3, a4] (vI x :: st) mem := ke_iload_n rfl dX3_drawHates_51
theorem eX3_drawHates_52 : ev X m_X3_drawHates 52 [a0, a1, a2, a3, a4] st mem = ev X m_X3_drawHates 54 [a0, a1, a2, a3, a4] (vI 2147483647 :: st) mem := ke_ldcI (n := 2147483647) rfl (by decide) dX3_drawHates_52
theorem eX3_drawHates_54 : ev X m_X3_drawHates 54 [a0, a1, a2, a3, a4] (vI y :: vI x :: st) mem = ev X m_X3_drawHates 55 [a0, a1, a2, a3, a4] (vI (and32 x y) :: st) mem := ke_iand dX3_drawHates_54
theorem eX3_drawHates_55 : ev X m_X3_drawHates 55 [a0, a1, a2, a3, a4] st mem = ev X m_X3_drawHates 58 [a0, a1, a2, a3, a4] (vI 256 :: st) mem := ke_sipush (by decide) dX3_drawHates_55
theorem eX3_drawHates_58 : ev X m_X3_drawHates 58 [a0, a1, a2, a3, a4] (vI y :: vI x :: st) mem = if y = 0 then none else ev X m_X3_drawHates 59 [a0, a1, a2, a3, a4] (vI (w32 (x.tdiv y)) :: st) mem := ke_idiv dX3_drawHates_58
theorem eX3_drawHates_59 : ev X m_X3_drawHates 59 [a0, a1, a2, a3, a4] st mem = ev X m_X3_drawHates 61 [a0, a1, a2, a3, a4] (vI 30 :: st) mem := ke_bipush (by decide) dX3_drawHates_59
theorem eX3_drawHates_61 : ev X m_X3_drawHates 61 [a0, a1, a2, a3, a4] (vI y :: vI x :: st) mem = if y = 0 then none else ev X m_X3_drawHates 62 [a0, a1, a2, a3, a4] (vI (w32 (x.tmod y)) :: st) mem := ke_irem dX3_drawHates_61
theorem eX3_drawHates_62 : ev X m_X3_drawHates 62 [a0, a1, a2, a3, a4] (vI n2 :: vI n1 :: vI n0 :: vR r :: []) mem = evc X (gR mem r 0 (ev X m_X0_setHate 0 [vR r, vI n0, vI n1, vI n2] [] mem)) m_X3_drawHates 65 [a0, a1, a2, a3, a4] [] := ke_callV (m' := m_X0_setHate) (as := [vI n0, vI n1, vI n2]) (n := 3) (rest := []) dX3_drawHates_62 rfl rfl rfl rfl rfl rfl (Nat.le_of_ble_eq_true rfl) (Nat.le_of_ble_eq_true rfl) (Nat.le_of_ble_eq_true rfl) rfl
theorem eX3_drawHates_65 : ev X m_X3_drawHates 65 [a0, a1, a2, a3, a4] (vI x :: st) mem = ev X m_X3_drawHates 66 [a0, a1, a2, a3, a4] st mem := ke_popI dX3_drawHates_65
theorem eX3_drawHates_65r : ev X m_X3_drawHates 65 [a0, a1, a2, a3, a4] (vR r :: st) mem = ev X m_X3_drawHates 66 [a0, a1, a2, a3, a4] st mem := ke_popR dX3_drawHates_65
theorem eX3_drawHates_66 : ev X m_X3_drawHates 66 [a0, a1, a2, a3, vI x] st mem = ev X m_X3_drawHates 69 [a0, a1, a2, a3, vI (w32 (x + 1))] st mem := ke_iinc rfl (Nat.le_of_ble_eq_true rfl) rfl dX3_drawHates_66
theorem eX3_drawHates_69 : ev X m_X3_drawHates 69 [a0, a1, a2, a3, a4] st mem = ev X m_X3_drawHates 18 [a0, a1, a2, a3, a4] st mem := ke_goto dX3_drawHates_69 rfl
theorem eX3_drawHates_72 : ev X m_X3_drawHates 72 [a0, a1, a2, vI x, a4] st mem = ev X m_X3_drawHates 75 [a0, a1, a2, vI (w32 (x + 1)), a4] st mem := ke_iinc rfl (Nat.le_of_ble_eq_true rfl) rfl dX3_drawHates_72
theorem eX3_drawHates_75 : ev X m_X3_drawHates 75 [a0, a1, a2, a3, a4] st mem = ev X m_X3_drawHates 4 [a0, a1, a2, a3, a4] st mem := ke_goto dX3_drawHates_75 rfl
theorem eX3_drawHates_78 : ev X m_X3_drawHates 78 [a0, a1, vI x, a3, a4] st mem = ev X m_X3_drawHates 79 [a0, a1, vI x, a3, a4] (vI x :: st) mem := ke_iload_n rfl dX3_drawHates_78
theorem eX3_drawHates_79 : ev X m_X3_drawHates 79 [a0, a1, a2, a3, a4] [vI x] mem = some (some (vI x), mem) := ke_ireturn dX3_drawHates_79 rfl
theorem eX4_image_0 : ev X m_X4_image 0 [vR r] st mem = ev X m_X4_image 1 [vR r] (vR r :: st) mem := ke_aload_n rfl dX4_image_0
theorem eX4_image_1 : ev X m_X4_image 1 [a0] (vR r :: st) mem = evb X (fget mem r 4 1) m_X4_image 4 [a0] st mem := ke_getf rfl dX4_image_1
theorem eX4_image_4 : ev X m_X4_image 4 [vR r] st mem = ev X m_X4_image 5 [vR r] (vR r :: st) mem := ke_aload_n rfl dX4_image_4
theorem eX4_image_5 : ev X m_X4_image 5 [a0] (vR r :: st) mem = evb X (fget mem r 4 0) m_X4_image 8 [a0] st mem := ke_getf rfl dX4_image_5
theorem eX4_image_8 : ev X m_X4_image 8 [a0] (vR r0 :: vR r :: []) mem = evc X (gR mem r 0 (ev X m_X0_become 0 [vR r, vR r0] [] mem)) m_X4_image 11 [a0] [] := ke_callV (m' := m_X0_become) (as := [vR r0]) (n := 1) (rest := []) dX4_image_8 rfl rfl rfl rfl rfl rfl (Nat.le_of_ble_eq_true rfl) (Nat.le_of_ble_eq_true rfl) (Nat.le_of_ble_eq_true rfl) rfl
theorem eX4_image_11 : ev X m_X4_image 11 [vR r] st mem = ev X m_X4_image 12 [vR r] (vR r :: st) mem := ke_aload_n rfl dX4_image_11
theorem eX4_image_12 : ev X m_X4_image 12 [a0] st mem = ev X m_X4_image 13 [a0] (vI 1 :: st) mem := ke_iconst (by decide) dX4_image_12
theorem eX4_image_13 (hz : x = 0 ∨ x = 1) : ev X m_X4_image 13 [a0] (vI x :: vR r :: st) mem = evm X (fput mem r 4 2 (vI x)) m_X4_image 16 [a0] st := ke_putz rfl (by decide +kernel) hz dX4_image_13
theorem eX4_image_16 : ev X m_X4_image 16 [vR r] st mem = ev X m_X4_image 17 [vR r] (vR r :: st) mem := ke_aload_n rfl dX4_image_16
theorem eX4_image_17 : ev X m_X4_image 17 [a0] (vR r :: st) mem = evb X (fget mem r 4 0) m_X4_image 20 [a0] st mem := ke_getf rfl dX4_image_17
theorem eX4_image_20 : ev X m_X4_image 20 [a0] (vR r :: st) mem = evb X (fget mem r 0 2) m_X4_image 23 [a0] st mem := ke_getf rfl dX4_image_20
theorem eX4_image_23 : ev X m_X4_image 23 [a0] [vI x] mem = some (some (vI x), mem) := ke_ireturn dX4_image_23 rfl
theorem eX4_on_0 : ev X m_X4_on 0 [vR r] st mem = ev X m_X4_on 1 [vR r] (vR r :: st) mem := ke_aload_n rfl dX4_on_0
theorem eX4_on_1 : ev X m_X4_on 1 [a0] (vR r :: st) mem = evb X (fget mem r 4 2) m_X4_on 4 [a0] st mem := ke_getf rfl dX4_on_1
theorem eX4_on_4 : ev X m_X4_on 4 [a0] (vI x :: st) mem = if x = 0 then ev X m_X4_on 7 [a0] st mem else ev X m_X4_on 14 [a0] st mem := ke_if_ne dX4_on_4 rfl
theorem eX4_on_7 : ev X m_X4_on 7 [vR r] st mem = ev X m_X4_on 8 [vR r] (vR r :: st) mem := ke_aload_n rfl dX4_on_7
theorem eX4_on_8 : ev X m_X4_on 8 [a0] st mem = ev X m_X4_on 10 [a0] (vI (-3) :: st) mem := ke_bipush (by decide) dX4_on_8
theorem eX4_on_10 : ev X m_X4_on 10 [a0] (vI n0 :: vR r :: []) mem = evc X (gR mem r 4 (ev X m_X4_refuse 0 [vR r, vI n0] [] mem)) m_X4_on 13 [a0] [] := ke_callV (m' := m_X4_refuse) (as := [vI n0]) (n := 1) (rest := []) dX4_on_10 rfl rfl rfl rfl rfl rfl (Nat.le_of_ble_eq_true rfl) (Nat.le_of_ble_eq_true rfl) (Nat.le_of_ble_eq_true rfl) rfl
theorem eX4_on_13 : ev X m_X4_on 13 [a0] [vI x] mem = some (some (vI x), mem) := ke_ireturn dX4_on_13 rfl
theorem eX4_on_14 : ev X m_X4_on 14 [vR r] st mem = ev X m_X4_on 15 [vR r] (vR r :: st) mem := ke_aload_n rfl dX4_on_14
theorem eX4_on_15 : ev X m_X4_on 15 [a0] (vR r :: st) mem = evb X (fget mem r 4 0) m_X4_on 18 [a0] st mem := ke_getf rfl dX4_on_15
theorem eX4_on_18 : ev X m_X4_on 18 [vR r] st mem = ev X m_X4_on 19 [vR r] (vR r :: st) mem := ke_aload_n rfl dX4_on_18
theorem eX4_on_19 : ev X m_X4_on 19 [a0] (vR r :: st) mem = evb X (fget mem r 4 1) m_X4_on 22 [a0] st mem := ke_getf rfl dX4_on_19
theorem eX4_on_22 : ev X m_X4_on 22 [a0] (vR r0 :: vR r :: []) mem = evc X (gR mem r 0 (ev X m_X0_become 0 [vR r, vR r0] [] mem)) m_X4_on 25 [a0] [] := ke_callV (m' := m_X0_become) (as := [vR r0]) (n := 1) (rest := []) dX4_on_22 rfl rfl rfl rfl rfl rfl (Nat.le_of_ble_eq_true rfl) (Nat.le_of_ble_eq_true rfl) (Nat.le_of_ble_eq_true rfl) rfl
theorem eX4_on_25 : ev X m_X4_on 25 [vR r] st mem = ev X m_X4_on 26 [vR r] (vR r :: st) mem := ke_aload_n rfl dX4_on_25
theorem eX4_on_26 : ev X m_X4_on 26 [a0] (vR r :: st) mem = evb X (fget mem r 4 0) m_X4_on 29 [a0] st mem := ke_getf rfl dX4_on_26
theorem eX4_on_29 : ev X m_X4_on 29 [a0] (vR r :: st) mem = evb X (fget mem r 0 2) m_X4_on 32 [a0] st mem := ke_getf rfl dX4_on_29
theorem eX4_on_32 : ev X m_X4_on 32 [a0] [vI x] mem = some (some (vI x), mem) := ke_ireturn dX4_on_32 rfl
theorem eX4_count_0 : ev X m_X4_count 0 [a0, vI x] st mem = ev X m_X4_count 1 [a0, vI x] (vI x :: st) mem := ke_iload_n rfl dX4_count_0
theorem eX4_count_1 : ev X m_X4_count 1 [a0, a1] (vI x :: st) mem = if x = 0 then ev X m_X4_count 48 [a0, a1] st mem else if x = 1 then ev X m_X4_count 56 [a0, a1] st mem else if x = 2 then ev X m_X4_count 64 [a0, a1] st mem else if x = 3 then ev X m_X4_count 72 [a0, a1] st mem else if x = 4 then ev X m_X4_count 81 [a0, a1] st mem else if x = 5 then ev X m_X4_count 90 [a0, a1] st mem else if x = 6 then ev X m_X4_count 98 [a0, a1] st mem else if x = 7 then ev X m_X4_count 106 [a0, a1] st mem else ev X m_X4_count 114 [a0, a1] st mem := by
  by_cases h0 : x = 0
  · subst h0; rw [if_pos rfl]; exact ke_swT dX4_count_1 (by decide) (by decide) (off := 47) rfl rfl
  rw [if_neg h0]
  by_cases h1 : x = 1
  · subst h1; rw [if_pos rfl]; exact ke_swT dX4_count_1 (by decide) (by decide) (off := 55) rfl rfl
  rw [if_neg h1]
  by_cases h2 : x = 2
  · subst h2; rw [if_pos rfl]; exact ke_swT dX4_count_1 (by decide) (by decide) (off := 63) rfl rfl
  rw [if_neg h2]
  by_cases h3 : x = 3
  · subst h3; rw [if_pos rfl]; exact ke_swT dX4_count_1 (by decide) (by decide) (off := 71) rfl rfl
  rw [if_neg h3]
  by_cases h4 : x = 4
  · subst h4; rw [if_pos rfl]; exact ke_swT dX4_count_1 (by decide) (by decide) (off := 80) rfl rfl
  rw [if_neg h4]
  by_cases h5 : x = 5
  · subst h5; rw [if_pos rfl]; exact ke_swT dX4_count_1 (by decide) (by decide) (off := 89) rfl rfl
  rw [if_neg h5]
  by_cases h6 : x = 6
  · subst h6; rw [if_pos rfl]; exact ke_swT dX4_count_1 (by decide) (by decide) (off := 97) rfl rfl
  rw [if_neg h6]
  by_cases h7 : x = 7
  · subst h7; rw [if_pos rfl]; exact ke_swT dX4_count_1 (by decide) (by decide) (off := 105) rfl rfl
  rw [if_neg h7]
  exact ke_swD dX4_count_1 (by omega) rfl
theorem eX4_count_48 : ev X m_X4_count 48 [vR r, a1] st mem = ev X m_X4_count 49 [vR r, a1] (vR r :: st) mem := ke_aload_n rfl dX4_count_48
theorem eX4_count_49 : ev X m_X4_count 49 [a0, a1] (vR r :: st) mem = evb X (fget mem r 4 0) m_X4_count 52 [a0, a1] st mem := ke_getf rfl dX4_count_49
theorem eX4_count_52 : ev X m_X4_count 52 [a0, a1] (vR r :: st) mem = evb X (fget mem r 0 0) m_X4_count 55 [a0, a1] st mem := ke_getf rfl dX4_count_52
theorem eX4_count_55 : ev X m_X4_count 55 [a0, a1] [vI x] mem = some (some (vI x), mem) := ke_ireturn dX4_count_55 rfl
theorem eX4_count_56 : ev X m_X4_count 56 [vR r, a1] st mem = ev X m_X4_count 57 [vR r, a1] (vR r :: st) mem := ke_aload_n rfl dX4_count_56
theorem eX4_count_57 : ev X m_X4_count 57 [a0, a1] (vR r :: st) mem = evb X (fget mem r 4 0) m_X4_count 60 [a0, a1] st mem := ke_getf rfl dX4_count_57
theorem eX4_count_60 : ev X m_X4_count 60 [a0, a1] (vR r :: st) mem = evb X (fget mem r 0 1) m_X4_count 63 [a0, a1] st mem := ke_getf rfl dX4_count_60
theorem eX4_count_63 : ev X m_X4_count 63 [a0, a1] [vI x] mem = some (some (vI x), mem) := ke_ireturn dX4_count_63 rfl
theorem eX4_count_64 : ev X m_X4_count 64 [vR r, a1] st mem = ev X m_X4_count 65 [vR r, a1] (vR r :: st) mem := ke_aload_n rfl dX4_count_64
theorem eX4_count_65 : ev X m_X4_count 65 [a0, a1] (vR r :: st) mem = evb X (fget mem r 4 0) m_X4_count 68 [a0, a1] st mem := ke_getf rfl dX4_count_65
theorem eX4_count_68 : ev X m_X4_count 68 [a0, a1] (vR r :: st) mem = evb X (fget mem r 0 2) m_X4_count 71 [a0, a1] st mem := ke_getf rfl dX4_count_68
theorem eX4_count_71 : ev X m_X4_count 71 [a0, a1] [vI x] mem = some (some (vI x), mem) := ke_ireturn dX4_count_71 rfl
theorem eX4_count_72 : ev X m_X4_count 72 [vR r, a1] st mem = ev X m_X4_count 73 [vR r, a1] (vR r :: st) mem := ke_aload_n rfl dX4_count_72
theorem eX4_count_73 : ev X m_X4_count 73 [a0, a1] (vR r :: st) mem = evb X (fget mem r 4 0) m_X4_count 76 [a0, a1] st mem := ke_getf rfl dX4_count_73
theorem eX4_count_76 : ev X m_X4_count 76 [a0, a1] st mem = ev X m_X4_count 77 [a0, a1] (vI 0 :: st) mem := ke_iconst (by decide) dX4_count_76
theorem eX4_count_77 : ev X m_X4_count 77 [a0, a1] (vI n0 :: vR r :: []) mem = evc X (gR mem r 0 (ev X m_X0_parcelsThat 0 [vR r, vI n0, vS, vS] [] mem)) m_X4_count 80 [a0, a1] [] := ke_callV (m' := m_X0_parcelsThat) (as := [vI n0]) (n := 1) (rest := []) dX4_count_77 rfl rfl rfl rfl rfl rfl (Nat.le_of_ble_eq_true rfl) (Nat.le_of_ble_eq_true rfl) (Nat.le_of_ble_eq_true rfl) rfl
theorem eX4_count_80 : ev X m_X4_count 80 [a0, a1] [vI x] mem = some (some (vI x), mem) := ke_ireturn dX4_count_80 rfl
theorem eX4_count_81 : ev X m_X4_count 81 [vR r, a1] st mem = ev X m_X4_count 82 [vR r, a1] (vR r :: st) mem := ke_aload_n rfl dX4_count_81
theorem eX4_count_82 : ev X m_X4_count 82 [a0, a1] (vR r :: st) mem = evb X (fget mem r 4 0) m_X4_count 85 [a0, a1] st mem := ke_getf rfl dX4_count_82
theorem eX4_count_85 : ev X m_X4_count 85 [a0, a1] st mem = ev X m_X4_count 86 [a0, a1] (vI 2 :: st) mem := ke_iconst (by decide) dX4_count_85
theorem eX4_count_86 : ev X m_X4_count 86 [a0, a1] (vI n0 :: vR r :: []) mem = evc X (gR mem r 0 (ev X m_X0_parcelsThat 0 [vR r, vI n0, vS, vS] [] mem)) m_X4_count 89 [a0, a1] [] := ke_callV (m' := m_X0_parcelsThat) (as := [vI n0]) (n := 1) (rest := []) dX4_count_86 rfl rfl rfl rfl rfl rfl (Nat.le_of_ble_eq_true rfl) (Nat.le_of_ble_eq_true rfl) (Nat.le_of_ble_eq_true rfl) rfl
theorem eX4_count_89 : ev X m_X4_count 89 [a0, a1] [vI x] mem = some (some (vI x), mem) := ke_ireturn dX4_count_89 rfl
theorem eX4_count_90 : ev X m_X4_count 90 [vR r, a1] st mem = ev X m_X4_count 91 [vR r, a1] (vR r :: st) mem := ke_aload_n rfl dX4_count_90
theorem eX4_count_91 : ev X m_X4_count 91 [a0, a1] (vR r :: st) mem = evb X (fget mem r 4 0) m_X4_count 94 [a0, a1] st mem := ke_getf rfl dX4_count_91
theorem eX4_count_94 : ev X m_X4_count 94 [a0, a1] (vR r :: []) mem = evc X (gR mem r 0 (ev X m_X0_hatesTogether 0 [vR r, vS, vS] [] mem)) m_X4_count 97 [a0, a1] [] := ke_callV (m' := m_X0_hatesTogether) (as := []) (n := 0) (rest := []) dX4_count_94 rfl rfl rfl rfl rfl rfl (Nat.le_of_ble_eq_true rfl) (Nat.le_of_ble_eq_true rfl) (Nat.le_of_ble_eq_true rfl) rfl
theorem eX4_count_97 : ev X m_X4_count 97 [a0, a1] [vI x] mem = some (some (vI x), mem) := ke_ireturn dX4_count_97 rfl
theorem eX4_count_98 : ev X m_X4_count 98 [vR r, a1] st mem = ev X m_X4_count 99 [vR r, a1] (vR r :: st) mem := ke_aload_n rfl dX4_count_98
theorem eX4_count_99 : ev X m_X4_count 99 [a0, a1] (vR r :: st) mem = evb X (fget mem r 4 5) m_X4_count 102 [a0, a1] st mem := ke_getf rfl dX4_count_99
theorem eX4_count_102 : ev X m_X4_count 102 [a0, a1] (vR r :: st) mem = evb X (fget mem r 1 0) m_X4_count 105 [a0, a1] st mem := ke_getf rfl dX4_count_102
theorem eX4_count_105 : ev X m_X4_count 105 [a0, a1] [vI x] mem = some (some (vI x), mem) := ke_ireturn dX4_count_105 rfl
theorem eX4_count_106 : ev X m_X4_count 106 [vR r, a1] st mem = ev X m_X4_count 107 [vR r, a1] (vR r :: st) mem := ke_aload_n rfl dX4_count_106
theorem eX4_count_107 : ev X m_X4_count 107 [a0, a1] (vR r :: st) mem = evb X (fget mem r 4 4) m_X4_count 110 [a0, a1] st mem := ke_getf rfl dX4_count_107
theorem eX4_count_110 : ev X m_X4_count 110 [a0, a1] (vR r :: st) mem = evb X (fget mem r 2 0) m_X4_count 113 [a0, a1] st mem := ke_getf rfl dX4_count_110
theorem eX4_count_113 : ev X m_X4_count 113 [a0, a1] [vI x] mem = some (some (vI x), mem) := ke_ireturn dX4_count_113 rfl
theorem eX4_count_114 : ev X m_X4_count 114 [a0, vI x] st mem = ev X m_X4_count 115 [a0, vI x] (vI x :: st) mem := ke_iload_n rfl dX4_count_114
theorem eX4_count_115 : ev X m_X4_count 115 [a0, a1] st mem = ev X m_X4_count 117 [a0, a1] (vI 10 :: st) mem := ke_bipush (by decide) dX4_count_115
theorem eX4_count_117 : ev X m_X4_count 117 [a0, a1] (vI y :: vI x :: st) mem = if y < x then ev X m_X4_count 120 [a0, a1] st mem else ev X m_X4_count 136 [a0, a1] st mem := ke_icmp_le dX4_count_117 rfl
theorem eX4_count_120 : ev X m_X4_count 120 [a0, vI x] st mem = ev X m_X4_count 121 [a0, vI x] (vI x :: st) mem := ke_iload_n rfl dX4_count_120
theorem eX4_count_121 : ev X m_X4_count 121 [a0, a1] st mem = ev X m_X4_count 123 [a0, a1] (vI 16 :: st) mem := ke_bipush (by decide) dX4_count_121
theorem eX4_count_123 : ev X m_X4_count 123 [a0, a1] (vI y :: vI x :: st) mem = if y < x then ev X m_X4_count 136 [a0, a1] st mem else ev X m_X4_count 126 [a0, a1] st mem := ke_icmp_gt dX4_count_123 rfl
theorem eX4_count_126 : ev X m_X4_count 126 [vR r, a1] st mem = ev X m_X4_count 127 [vR r, a1] (vR r :: st) mem := ke_aload_n rfl dX4_count_126
theorem eX4_count_127 : ev X m_X4_count 127 [a0, a1] (vR r :: st) mem = evb X (fget mem r 4 6) m_X4_count 130 [a0, a1] st mem := ke_getf rfl dX4_count_127
theorem eX4_count_130 : ev X m_X4_count 130 [a0, vI x] st mem = ev X m_X4_count 131 [a0, vI x] (vI x :: st) mem := ke_iload_n rfl dX4_count_130
theorem eX4_count_131 : ev X m_X4_count 131 [a0, a1] st mem = ev X m_X4_count 133 [a0, a1] (vI 10 :: st) mem := ke_bipush (by decide) dX4_count_131
theorem eX4_count_133 : ev X m_X4_count 133 [a0, a1] (vI y :: vI x :: st) mem = ev X m_X4_count 134 [a0, a1] (vI (w32 (x - y)) :: st) mem := ke_isub dX4_count_133
theorem eX4_count_134 : ev X m_X4_count 134 [a0, a1] (vI x :: vR r :: st) mem = evb X (aget mem r x) m_X4_count 135 [a0, a1] st mem := ke_iaload dX4_count_134
theorem eX4_count_135 : ev X m_X4_count 135 [a0, a1] [vI x] mem = some (some (vI x), mem) := ke_ireturn dX4_count_135 rfl
theorem eX4_count_136 : ev X m_X4_count 136 [a0, a1] st mem = ev X m_X4_count 138 [a0, a1] (vI (-9) :: st) mem := ke_bipush (by decide) dX4_count_136
theorem eX4_count_138 : ev X m_X4_count 138 [a0, a1] [vI x] mem = some (some (vI x), mem) := ke_ireturn dX4_count_138 rfl
theorem eX0_parcelsThat_0 : ev X m_X0_parcelsThat 0 [a0, a1, a2, a3] st mem = ev X m_X0_parcelsThat 1 [a0, a1, a2, a3] (vI 0 :: st) mem := ke_iconst (by decide) dX0_parcelsThat_0
theorem eX0_parcelsThat_1 : ev X m_X0_parcelsThat 1 [a0, a1, a2, a3] (vI x :: st) mem = ev X m_X0_parcelsThat 2 [a0, a1, vI x, a3] st mem := ke_istore_n (Nat.le_of_ble_eq_true rfl) rfl dX0_parcelsThat_1
theorem eX0_parcelsThat_2 : ev X m_X0_parcelsThat 2 [a0, a1, a2, a3] st mem = ev X m_X0_parcelsThat 3 [a0, a1, a2, a3] (vI 0 :: st) mem := ke_iconst (by decide) dX0_parcelsThat_2
theorem eX0_parcelsThat_3 : ev X m_X0_parcelsThat 3 [a0, a1, a2, a3] (vI x :: st) mem = ev X m_X0_parcelsThat 4 [a0, a1, a2, vI x] st mem := ke_istore_n (Nat.le_of_ble_eq_true rfl) rfl dX0_parcelsThat_3
theorem eX0_parcelsThat_4 : ev X m_X0_parcelsThat 4 [a0, a1, a2, vI x] st mem = ev X m_X0_parcelsThat 5 [a0, a1, a2, vI x] (vI x :: st) mem := ke_iload_n rfl dX0_parcelsThat_4
theorem eX0_parcelsThat_5 : ev X m_X0_parcelsThat 5 [vR r, a1, a2, a3] st mem = ev X m_X0_parcelsThat 6 [vR r, a1, a2, a3] (vR r :: st) mem := ke_aload_n rfl dX0_parcelsThat_5
theorem eX0_parcelsThat_6 : ev X m_X0_parcelsThat 6 [a0, a1, a2, a3] (vR r :: st) mem = evb X (fget mem r 0 1) m_X0_parcelsThat 9 [a0, a1, a2, a3] st mem := ke_getf rfl dX0_parcelsThat_6
theorem eX0_parcelsThat_9 : ev X m_X0_parcelsThat 9 [a0, a1, a2, a3] (vI y :: vI x :: st) mem = if x < y then ev X m_X0_parcelsThat 12 [a0, a1, a2, a3] st mem else ev X m_X0_parcelsThat 34 [a0, a1, a2, a3] st mem := ke_icmp_ge dX0_parcelsThat_9 rfl
theorem eX0_parcelsThat_12 : ev X m_X0_parcelsThat 12 [vR r, a1, a2, a3] st mem = ev X m_X0_parcelsThat 13 [vR r, a1, a2, a3] (vR r :: st) mem := ke_aload_n rfl dX0_parcelsThat_12
theorem eX0_parcelsThat_13 : ev X m_X0_parcelsThat 13 [a0, a1, a2, a3] (vR r :: st) mem = evb X (fget mem r 0 10) m_X0_parcelsThat 16 [a0, a1, a2, a3] st mem := ke_getf rfl dX0_parcelsThat_13
theorem eX0_parcelsThat_16 : ev X m_X0_parcelsThat 16 [a0, a1, a2, vI x] st mem = ev X m_X0_parcelsThat 17 [a0, a1, a2, vI x] (vI x :: st) mem := ke_iload_n rfl dX0_parcelsThat_16
theorem eX0_parcelsThat_17 : ev X m_X0_parcelsThat 17 [a0, a1, a2, a3] (vI x :: vR r :: st) mem = evb X (aget mem r x) m_X0_parcelsThat 18 [a0, a1, a2, a3] st mem := ke_iaload dX0_parcelsThat_17
theorem eX0_parcelsThat_18 : ev X m_X0_parcelsThat 18 [a0, vI x, a2, a3] st mem = ev X m_X0_parcelsThat 19 [a0, vI x, a2, a3] (vI x :: st) mem := ke_iload_n rfl dX0_parcelsThat_18
theorem eX0_parcelsThat_19 : ev X m_X0_parcelsThat 19 [a0, a1, a2, a3] (vI y :: vI x :: st) mem = if x = y then ev X m_X0_parcelsThat 22 [a0, a1, a2, a3] st mem else ev X m_X0_parcelsThat 28 [a0, a1, a2, a3] st mem := ke_icmp_ne dX0_parcelsThat_19 rfl
theorem eX0_parcelsThat_22 : ev X m_X0_parcelsThat 22 [a0, a1, vI x, a3] st mem = ev X m_X0_parcelsThat 23 [a0, a1, vI x, a3] (vI x :: st) mem := ke_iload_n rfl dX0_parcelsThat_22
theorem eX0_parcelsThat_23 : ev X m_X0_parcelsThat 23 [a0, a1, a2, a3] st mem = ev X m_X0_parcelsThat 24 [a0, a1, a2, a3] (vI 1 :: st) mem := ke_iconst (by decide) dX0_parcelsThat_23
theorem eX0_parcelsThat_24 : ev X m_X0_parcelsThat 24 [a0, a1, a2, vI x] st mem = ev X m_X0_parcelsThat 25 [a0, a1, a2, vI x] (vI x :: st) mem := ke_iload_n rfl dX0_parcelsThat_24
theorem eX0_parcelsThat_25 : ev X m_X0_parcelsThat 25 [a0, a1, a2, a3] (vI y :: vI x :: st) mem = ev X m_X0_parcelsThat 26 [a0, a1, a2, a3] (vI (shl32 x y) :: st) mem := ke_ishl dX0_parcelsThat_25
theorem eX0_parcelsThat_26 : ev X m_X0_parcelsThat 26 [a0, a1, a2, a3] (vI y :: vI x :: st) mem = ev X m_X0_parcelsThat 27 [a0, a1, a2, a3] (vI (or32 x y) :: st) mem := ke_ior dX0_parcelsThat_26
theorem eX0_parcelsThat_27 : ev X m_X0_parcelsThat 27 [a0, a1, a2, a3] (vI x :: st) mem = ev X m_X0_parcelsThat 28 [a0, a1, vI x, a3] st mem := ke_istore_n (Nat.le_of_ble_eq_true rfl) rfl dX0_parcelsThat_27
theorem eX0_parcelsThat_28 : ev X m_X0_parcelsThat 28 [a0, a1, a2, vI x] st mem = ev X m_X0_parcelsThat 31 [a0, a1, a2, vI (w32 (x + 1))] st mem := ke_iinc rfl (Nat.le_of_ble_eq_true rfl) rfl dX0_parcelsThat_28
theorem eX0_parcelsThat_31 : ev X m_X0_parcelsThat 31 [a0, a1, a2, a3] st mem = ev X m_X0_parcelsThat 4 [a0, a1, a2, a3] st mem := ke_goto dX0_parcelsThat_31 rfl
theorem eX0_parcelsThat_34 : ev X m_X0_parcelsThat 34 [a0, a1, vI x, a3] st mem = ev X m_X0_parcelsThat 35 [a0, a1, vI x, a3] (vI x :: st) mem := ke_iload_n rfl dX0_parcelsThat_34
theorem eX0_parcelsThat_35 : ev X m_X0_parcelsThat 35 [a0, a1, a2, a3] [vI x] mem = some (some (vI x), mem) := ke_ireturn dX0_parcelsThat_35 rfl
theorem eX5_letter_0 : ev X m_X5_letter 0 [a0, vI x, a2] st mem = ev X m_X5_letter 1 [a0, vI x, a2] (vI x :: st) mem := ke_iload_n rfl dX5_letter_0
theorem eX5_letter_1 : ev X m_X5_letter 1 [a0, a1, a2] st mem = ev X m_X5_letter 2 [a0, a1, a2] (vI 0 :: st) mem := ke_iconst (by decide) dX5_letter_1
theorem eX5_letter_2 : ev X m_X5_letter 2 [a0, a1, a2] st mem = ev X m_X5_letter 5 [a0, a1, a2] (vI 255 :: st) mem := ke_sipush (by decide) dX5_letter_2
theorem eX5_letter_5 : ev X m_X5_letter 5 [a0, a1, a2] (vI n2 :: vI n1 :: vI n0 :: []) mem = evc X (ev X m_X5_bound 0 [vI n0, vI n1, vI n2] [] mem) m_X5_letter 8 [a0, a1, a2] [] := ke_callS (m' := m_X5_bound) (as := [vI n0, vI n1, vI n2]) (n := 3) (rest := []) dX5_letter_5 rfl (by decide) rfl rfl rfl rfl rfl (Nat.le_of_ble_eq_true rfl) (Nat.le_of_ble_eq_true rfl) rfl
theorem eX5_letter_8 : ev X m_X5_letter 8 [a0, a1, a2] (vI x :: st) mem = ev X m_X5_letter 9 [a0, a1, vI x] st mem := ke_istore_n (Nat.le_of_ble_eq_true rfl) rfl dX5_letter_8
theorem eX5_letter_9 : ev X m_X5_letter 9 [a0, a1, vI x] st mem = ev X m_X5_letter 10 [a0, a1, vI x] (vI x :: st) mem := ke_iload_n rfl dX5_letter_9
theorem eX5_letter_10 : ev X m_X5_letter 10 [a0, a1, a2] (vI x :: st) mem = if x = 0 then ev X m_X5_letter 13 [a0, a1, a2] st mem else ev X m_X5_letter 25 [a0, a1, a2] st mem := ke_if_ne dX5_letter_10 rfl
theorem eX5_letter_13 : ev X m_X5_letter 13 [vR r, a1, a2] st mem = ev X m_X5_letter 14 [vR r, a1, a2] (vR r :: st) mem := ke_aload_n rfl dX5_letter_13
theorem eX5_letter_14 : ev X m_X5_letter 14 [a0, a1, a2] (vR r :: st) mem = evb X (fget mem r 5 18) m_X5_letter 17 [a0, a1, a2] st mem := ke_getf rfl dX5_letter_14
theorem eX5_letter_17 : ev X m_X5_letter 17 [a0, a1, a2] st mem = ev X m_X5_letter 19 [a0, a1, a2] (vI 96 :: st) mem := ke_bipush (by decide) dX5_letter_17
theorem eX5_letter_19 : ev X m_X5_letter 19 [a0, a1, a2] (vI y :: vI x :: st) mem = if x = y then ev X m_X5_letter 22 [a0, a1, a2] st mem else ev X m_X5_letter 25 [a0, a1, a2] st mem := ke_icmp_ne dX5_letter_19 rfl
theorem eX5_letter_22 : ev X m_X5_letter 22 [a0, a1, a2] st mem = ev X m_X5_letter 24 [a0, a1, a2] (vI (-6) :: st) mem := ke_bipush (by decide) dX5_letter_22
theorem eX5_letter_24 : ev X m_X5_letter 24 [a0, a1, a2] (vI x :: st) mem = ev X m_X5_letter 25 [a0, a1, vI x] st mem := ke_istore_n (Nat.le_of_ble_eq_true rfl) rfl dX5_letter_24
theorem eX5_letter_25 : ev X m_X5_letter 25 [a0, a1, vI x] st mem = ev X m_X5_letter 26 [a0, a1, vI x] (vI x :: st) mem := ke_iload_n rfl dX5_letter_25
theorem eX5_letter_26 : ev X m_X5_letter 26 [a0, a1, a2] (vI x :: st) mem = if x = 0 then ev X m_X5_letter 35 [a0, a1, a2] st mem else ev X m_X5_letter 29 [a0, a1, a2] st mem := ke_if_eq dX5_letter_26 rfl
theorem eX5_letter_29 : ev X m_X5_letter 29 [vR r, a1, a2] st mem = ev X m_X5_letter 30 [vR r, a1, a2] (vR r :: st) mem := ke_aload_n rfl dX5_letter_29
theorem eX5_letter_30 : ev X m_X5_letter 30 [a0, a1, vI x] st mem = ev X m_X5_letter 31 [a0, a1, vI x] (vI x :: st) mem := ke_iload_n rfl dX5_letter_30
theorem eX5_letter_31 : ev X m_X5_letter 31 [a0, a1, a2] (vI n0 :: vR r :: []) mem = evc X (gR mem r 5 (ev X m_X5_no 0 [vR r, vI n0] [] mem)) m_X5_letter 34 [a0, a1, a2] [] := ke_callV (m' := m_X5_no) (as := [vI n0]) (n := 1) (rest := []) dX5_letter_31 rfl rfl rfl rfl rfl rfl (Nat.le_of_ble_eq_true rfl) (Nat.le_of_ble_eq_true rfl) (Nat.le_of_ble_eq_true rfl) rfl
theorem eX5_letter_34 : ev X m_X5_letter 34 [a0, a1, a2] [vI x] mem = some (some (vI x), mem) := ke_ireturn dX5_letter_34 rfl
theorem eX5_letter_35 : ev X m_X5_letter 35 [vR r, a1, a2] st mem = ev X m_X5_letter 36 [vR r, a1, a2] (vR r :: st) mem := ke_aload_n rfl dX5_letter_35
theorem eX5_letter_36 : ev X m_X5_letter 36 [a0, a1, a2] (vR r :: st) mem = evb X (fget mem r 5 14) m_X5_letter 39 [a0, a1, a2] st mem := ke_getf rfl dX5_letter_36
theorem eX5_letter_39 : ev X m_X5_letter 39 [vR r, a1, a2] st mem = ev X m_X5_letter 40 [vR r, a1, a2] (vR r :: st) mem := ke_aload_n rfl dX5_letter_39
theorem eX5_letter_40 : ev X m_X5_letter 40 [a0, a1, a2] (vR r :: st) mem = evb X (fget mem r 5 18) m_X5_letter 43 [a0, a1, a2] st mem := ke_getf rfl dX5_letter_40
theorem eX5_letter_43 : ev X m_X5_letter 43 [a0, vI x, a2] st mem = ev X m_X5_letter 44 [a0, vI x, a2] (vI x :: st) mem := ke_iload_n rfl dX5_letter_43
theorem eX5_letter_44 : ev X m_X5_letter 44 [a0, a1, a2] (vI y :: vI x :: vR r :: st) mem = evm X (aput mem r x y) m_X5_letter 45 [a0, a1, a2] st := ke_iastore dX5_letter_44
theorem eX5_letter_45 : ev X m_X5_letter 45 [vR r, a1, a2] st mem = ev X m_X5_letter 46 [vR r, a1, a2] (vR r :: st) mem := ke_aload_n rfl dX5_letter_45
theorem eX5_letter_46 : ev X m_X5_letter 46 [a0, a1, a2] (vI x :: st) mem = ev X m_X5_letter 47 [a0, a1, a2] (vI x :: vI x :: st) mem := ke_dupI dX5_letter_46
theorem eX5_letter_46r : ev X m_X5_letter 46 [a0, a1, a2] (vR r :: st) mem = ev X m_X5_letter 47 [a0, a1, a2] (vR r :: vR r :: st) mem := ke_dupR dX5_letter_46
theorem eX5_letter_47 : ev X m_X5_letter 47 [a0, a1, a2] (vR r :: st) mem = evb X (fget mem r 5 18) m_X5_letter 50 [a0, a1, a2] st mem := ke_getf rfl dX5_letter_47
theorem eX5_letter_50 : ev X m_X5_letter 50 [a0, a1, a2] st mem = ev X m_X5_letter 51 [a0, a1, a2] (vI 1 :: st) mem := ke_iconst (by decide) dX5_letter_50
theorem eX5_letter_51 : ev X m_X5_letter 51 [a0, a1, a2] (vI y :: vI x :: st) mem = ev X m_X5_letter 52 [a0, a1, a2] (vI (w32 (x + y)) :: st) mem := ke_iadd dX5_letter_51
theorem eX5_letter_52 : ev X m_X5_letter 52 [a0, a1, a2] (vI x :: vR r :: st) mem = evm X (fput mem r 5 18 (vI x)) m_X5_letter 55 [a0, a1, a2] st := ke_putf rfl (by decide +kernel) dX5_letter_52
theorem eX5_letter_55 : ev X m_X5_letter 55 [vR r, a1, a2] st mem = ev X m_X5_letter 56 [vR r, a1, a2] (vR r :: st) mem := ke_aload_n rfl dX5_letter_55
theorem eX5_letter_56 : ev X m_X5_letter 56 [a0, a1, a2] (vR r :: st) mem = evb X (fget mem r 5 18) m_X5_letter 59 [a0, a1, a2] st mem := ke_getf rfl dX5_letter_56
theorem eX5_letter_59 : ev X m_X5_letter 59 [a0, a1, a2] [vI x] mem = some (some (vI x), mem) := ke_ireturn dX5_letter_59 rfl
theorem eX5_bound_0 : ev X m_X5_bound 0 [vI x, a1, a2] st mem = ev X m_X5_bound 1 [vI x, a1, a2] (vI x :: st) mem := ke_iload_n rfl dX5_bound_0
theorem eX5_bound_1 : ev X m_X5_bound 1 [a0, vI x, a2] st mem = ev X m_X5_bound 2 [a0, vI x, a2] (vI x :: st) mem := ke_iload_n rfl dX5_bound_1
theorem eX5_bound_2 : ev X m_X5_bound 2 [a0, a1, a2] (vI y :: vI x :: st) mem = if x < y then ev X m_X5_bound 5 [a0, a1, a2] st mem else ev X m_X5_bound 10 [a0, a1, a2] st mem := ke_icmp_ge dX5_bound_2 rfl
theorem eX5_bound_5 : ev X m_X5_bound 5 [a0, a1, a2] st mem = ev X m_X5_bound 7 [a0, a1, a2] (vI (-4) :: st) mem := ke_bipush (by decide) dX5_bound_5
theorem eX5_bound_7 : ev X m_X5_bound 7 [a0, a1, a2] st mem = ev X m_X5_bound 21 [a0, a1, a2] st mem := ke_goto dX5_bound_7 rfl
theorem eX5_bound_10 : ev X m_X5_bound 10 [vI x, a1, a2] st mem = ev X m_X5_bound 11 [vI x, a1, a2] (vI x :: st) mem := ke_iload_n rfl dX5_bound_10
theorem eX5_bound_11 : ev X m_X5_bound 11 [a0, a1, vI x] st mem = ev X m_X5_bound 12 [a0, a1, vI x] (vI x :: st) mem := ke_iload_n rfl dX5_bound_11
theorem eX5_bound_12 : ev X m_X5_bound 12 [a0, a1, a2] (vI y :: vI x :: st) mem = if y < x then ev X m_X5_bound 15 [a0, a1, a2] st mem else ev X m_X5_bound 20 [a0, a1, a2] st mem := ke_icmp_le dX5_bound_12 rfl
theorem eX5_bound_15 : ev X m_X5_bound 15 [a0, a1, a2] st mem = ev X m_X5_bound 17 [a0, a1, a2] (vI (-6) :: st) mem := ke_bipush (by decide) dX5_bound_15
theorem eX5_bound_17 : ev X m_X5_bound 17 [a0, a1, a2] st mem = ev X m_X5_bound 21 [a0, a1, a2] st mem := ke_goto dX5_bound_17 rfl
theorem eX5_bound_20 : ev X m_X5_bound 20 [a0, a1, a2] st mem = ev X m_X5_bound 21 [a0, a1, a2] (vI 0 :: st) mem := ke_iconst (by decide) dX5_bound_20
theorem eX5_bound_21 : ev X m_X5_bound 21 [a0, a1, a2] [vI x] mem = some (some (vI x), mem) := ke_ireturn dX5_bound_21 rfl
theorem eX5_no_0 : ev X m_X5_no 0 [vR r, a1] st mem = ev X m_X5_no 1 [vR r, a1] (vR r :: st) mem := ke_aload_n rfl dX5_no_0
theorem eX5_no_1 : ev X m_X5_no 1 [a0, a1] (vR r :: st) mem = evb X (fget mem r 5 0) m_X5_no 4 [a0, a1] st mem := ke_getf rfl dX5_no_1
theorem eX5_no_4 : ev X m_X5_no 4 [a0, vI x] st mem = ev X m_X5_no 5 [a0, vI x] (vI x :: st) mem := ke_iload_n rfl dX5_no_4
theorem eX5_no_5 : ev X m_X5_no 5 [a0, a1] (vI x :: st) mem = ev X m_X5_no 6 [a0, a1] (vI (w32 (-x)) :: st) mem := ke_ineg dX5_no_5
theorem eX5_no_6 : ev X m_X5_no 6 [a0, a1] (vI x :: vR r :: st) mem = ev X m_X5_no 7 [a0, a1] (vI x :: vR r :: vI x :: vR r :: st) mem := ke_dup2 dX5_no_6
theorem eX5_no_7 : ev X m_X5_no 7 [a0, a1] (vI x :: vR r :: st) mem = evb X (aget mem r x) m_X5_no 8 [a0, a1] st mem := ke_iaload dX5_no_7
theorem eX5_no_8 : ev X m_X5_no 8 [a0, a1] st mem = ev X m_X5_no 9 [a0, a1] (vI 1 :: st) mem := ke_iconst (by decide) dX5_no_8
theorem eX5_no_9 : ev X m_X5_no 9 [a0, a1] (vI y :: vI x :: st) mem = ev X m_X5_no 10 [a0, a1] (vI (w32 (x + y)) :: st) mem := ke_iadd dX5_no_9
theorem eX5_no_10 : ev X m_X5_no 10 [a0, a1] (vI y :: vI x :: vR r :: st) mem = evm X (aput mem r x y) m_X5_no 11 [a0, a1] st := ke_iastore dX5_no_10
theorem eX5_no_11 : ev X m_X5_no 11 [a0, vI x] st mem = ev X m_X5_no 12 [a0, vI x] (vI x :: st) mem := ke_iload_n rfl dX5_no_11
theorem eX5_no_12 : ev X m_X5_no 12 [a0, a1] [vI x] mem = some (some (vI x), mem) := ke_ireturn dX5_no_12 rfl
theorem eX5_duchy_0 : ev X m_X5_duchy 0 [vR r, a1, a2] st mem = ev X m_X5_duchy 1 [vR r, a1, a2] (vR r :: st) mem := ke_aload_n rfl dX5_duchy_0
theorem eX5_duchy_1 : ev X m_X5_duchy 1 [a0, a1, a2] st mem = ev X m_X5_duchy 2 [a0, a1, a2] (vI 0 :: st) mem := ke_iconst (by decide) dX5_duchy_1
theorem eX5_duchy_2 : ev X m_X5_duchy 2 [a0, a1, a2] (vI x :: vR r :: st) mem = evm X (fput mem r 5 19 (vI x)) m_X5_duchy 5 [a0, a1, a2] st := ke_putf rfl (by decide +kernel) dX5_duchy_2
theorem eX5_duchy_5 : ev X m_X5_duchy 5 [vR r, a1, a2] st mem = ev X m_X5_duchy 6 [vR r, a1, a2] (vR r :: st) mem := ke_aload_n rfl dX5_duchy_5
theorem eX5_duchy_6 : ev X m_X5_duchy 6 [a0, a1, a2] st mem = ev X m_X5_duchy 7 [a0, a1, a2] (vI 0 :: st) mem := ke_iconst (by decide) dX5_duchy_6
theorem eX5_duchy_7 : ev X m_X5_duchy 7 [a0, a1, a2] (vI x :: vR r :: st) mem = evm X (fput mem r 5 20 (vI x)) m_X5_duchy 10 [a0, a1, a2] st := ke_putf rfl (by decide +kernel) dX5_duchy_7
theorem eX5_duchy_10 : ev X m_X5_duchy 10 [a0, a1, a2] st mem = ev X m_X5_duchy 11 [a0, a1, a2] (vI 1 :: st) mem := ke_iconst (by decide) dX5_duchy_10
theorem eX5_duchy_11 : ev X m_X5_duchy 11 [a0, a1, a2] (vI x :: st) mem = ev X m_X5_duchy 12 [a0, vI x, a2] st mem := ke_istore_n (Nat.le_of_ble_eq_true rfl) rfl dX5_duchy_11
theorem eX5_duchy_12 : ev X m_X5_duchy 12 [a0, vI x, a2] st mem = ev X m_X5_duchy 13 [a0, vI x, a2] (vI x :: st) mem := ke_iload_n rfl dX5_duchy_12
theorem eX5_duchy_13 : ev X m_X5_duchy 13 [a0, a1, a2] (vI x :: st) mem = if x = 0 then ev X m_X5_duchy 60 [a0, a1, a2] st mem else ev X m_X5_duchy 16 [a0, a1, a2] st mem := ke_if_eq dX5_duchy_13 rfl
theorem eX5_duchy_16 : ev X m_X5_duchy 16 [vR r, a1, a2] st mem = ev X m_X5_duchy 17 [vR r, a1, a2] (vR r :: st) mem := ke_aload_n rfl dX5_duchy_16
theorem eX5_duchy_17 : ev X m_X5_duchy 17 [a0, a1, a2] (vR r :: st) mem = evb X (fget mem r 5 19) m_X5_duchy 20 [a0, a1, a2] st mem := ke_getf rfl dX5_duchy_17
theorem eX5_duchy_20 : ev X m_X5_duchy 20 [vR r, a1, a2] st mem = ev X m_X5_duchy 21 [vR r, a1, a2] (vR r :: st) mem := ke_aload_n rfl dX5_duchy_20
theorem eX5_duchy_21 : ev X m_X5_duchy 21 [a0, a1, a2] (vR r :: st) mem = evb X (fget mem r 5 18) m_X5_duchy 24 [a0, a1, a2] st mem := ke_getf rfl dX5_duchy_21
theorem eX5_duchy_24 : ev X m_X5_duchy 24 [a0, a1, a2] (vI y :: vI x :: st) mem = if x < y then ev X m_X5_duchy 34 [a0, a1, a2] st mem else ev X m_X5_duchy 27 [a0, a1, a2] st mem := ke_icmp_lt dX5_duchy_24 rfl
theorem eX5_duchy_27 : ev X m_X5_duchy 27 [vR r, a1, a2] st mem = ev X m_X5_duchy 28 [vR r, a1, a2] (vR r :: st) mem := ke_aload_n rfl dX5_duchy_27
theorem eX5_duchy_28 : ev X m_X5_duchy 28 [a0, a1, a2] (vR r :: st) mem = evb X (fget mem r 5 20) m_X5_duchy 31 [a0, a1, a2] st mem := ke_getf rfl dX5_duchy_28
theorem eX5_duchy_31 : ev X m_X5_duchy 31 [a0, a1, a2] (vI x :: st) mem = if x = 0 then ev X m_X5_duchy 34 [a0, a1, a2] st mem else ev X m_X5_duchy 60 [a0, a1, a2] st mem := ke_if_ne dX5_duchy_31 rfl
theorem eX5_duchy_34 : ev X m_X5_duchy 34 [vR r, a1, a2] st mem = ev X m_X5_duchy 35 [vR r, a1, a2] (vR r :: st) mem := ke_aload_n rfl dX5_duchy_34
theorem eX5_duchy_35 : ev X m_X5_duchy 35 [a0, a1, a2] (vR r :: []) mem = evc X (gR mem r 5 (ev X m_X5_statement 0 [vR r, vS] [] mem)) m_X5_duchy 38 [a0, a1, a2] [] := ke_callV (m' := m_X5_statement) (as := []) (n := 0) (rest := []) dX5_duchy_35 rfl rfl rfl rfl rfl rfl (Nat.le_of_ble_eq_true rfl) (Nat.le_of_ble_eq_true rfl) (Nat.le_of_ble_eq_true rfl) rfl
theorem eX5_duchy_38 : ev X m_X5_duchy 38 [a0, a1, a2] (vI x :: st) mem = ev X m_X5_duchy 39 [a0, vI x, a2] st mem := ke_istore_n (Nat.le_of_ble_eq_true rfl) rfl dX5_duchy_38
theorem eX5_duchy_39 : ev X m_X5_duchy 39 [vR r, a1, a2] st mem = ev X m_X5_duchy 40 [vR r, a1, a2] (vR r :: st) mem := ke_aload_n rfl dX5_duchy_39
theorem eX5_duchy_40 : ev X m_X5_duchy 40 [a0, a1, a2] (vI x :: st) mem = ev X m_X5_duchy 41 [a0, a1, a2] (vI x :: vI x :: st) mem := ke_dupI dX5_duchy_40
theorem eX5_duchy_40r : ev X m_X5_duchy 40 [a0, a1, a2] (vR r :: st) mem = ev X m_X5_duchy 41 [a0, a1, a2] (vR r :: vR r :: st) mem := ke_dupR dX5_duchy_40
theorem eX5_duchy_41 : ev X m_X5_duchy 41 [a0, a1, a2] (vR r :: st) mem = evb X (fget mem r 5 20) m_X5_duchy 44 [a0, a1, a2] st mem := ke_getf rfl dX5_duchy_41
theorem eX5_duchy_44 : ev X m_X5_duchy 44 [a0, vI x, a2] st mem = ev X m_X5_duchy 45 [a0, vI x, a2] (vI x :: st) mem := ke_iload_n rfl dX5_duchy_44
theorem eX5_duchy_45 : ev X m_X5_duchy 45 [a0, a1, a2] (vI x :: st) mem = if x = 0 then ev X m_X5_duchy 52 [a0, a1, a2] st mem else ev X m_X5_duchy 48 [a0, a1, a2] st mem := ke_if_eq dX5_duchy_45 rfl
theorem eX5_duchy_48 : ev X m_X5_duchy 48 [a0, a1, a2] st mem = ev X m_X5_duchy 49 [a0, a1, a2] (vI 1 :: st) mem := ke_iconst (by decide) dX5_duchy_48
theorem eX5_duchy_49 : ev X m_X5_duchy 49 [a0, a1, a2] st mem = ev X m_X5_duchy 53 [a0, a1, a2] st mem := ke_goto dX5_duchy_49 rfl
theorem eX5_duchy_52 : ev X m_X5_duchy 52 [a0, a1, a2] st mem = ev X m_X5_duchy 53 [a0, a1, a2] (vI 0 :: st) mem := ke_iconst (by decide) dX5_duchy_52
theorem eX5_duchy_53 : ev X m_X5_duchy 53 [a0, a1, a2] (vI y :: vI x :: st) mem = ev X m_X5_duchy 54 [a0, a1, a2] (vI (w32 (x + y)) :: st) mem := ke_iadd dX5_duchy_53
theorem eX5_duchy_54 : ev X m_X5_duchy 54 [a0, a1, a2] (vI x :: vR r :: st) mem = evm X (fput mem r 5 20 (vI x)) m_X5_duchy 57 [a0, a1, a2] st := ke_putf rfl (by decide +kernel) dX5_duchy_54
theorem eX5_duchy_57 : ev X m_X5_duchy 57 [a0, a1, a2] st mem = ev X m_X5_duchy 12 [a0, a1, a2] st mem := ke_goto dX5_duchy_57 rfl
theorem eX5_duchy_60 : ev X m_X5_duchy 60 [vR r, a1, a2] st mem = ev X m_X5_duchy 61 [vR r, a1, a2] (vR r :: st) mem := ke_aload_n rfl dX5_duchy_60
theorem eX5_duchy_61 : ev X m_X5_duchy 61 [a0, a1, a2] st mem = ev X m_X5_duchy 62 [a0, a1, a2] (vI 0 :: st) mem := ke_iconst (by decide) dX5_duchy_61
theorem eX5_duchy_62 : ev X m_X5_duchy 62 [a0, a1, a2] (vI x :: vR r :: st) mem = evm X (fput mem r 5 18 (vI x)) m_X5_duchy 65 [a0, a1, a2] st := ke_putf rfl (by decide +kernel) dX5_duchy_62
theorem eX5_duchy_65 : ev X m_X5_duchy 65 [a0, vI x, a2] st mem = ev X m_X5_duchy 66 [a0, vI x, a2] (vI x :: st) mem := ke_iload_n rfl dX5_duchy_65
theorem eX5_duchy_66 : ev X m_X5_duchy 66 [a0, a1, a2] (vI x :: st) mem = if x = 0 then ev X m_X5_duchy 69 [a0, a1, a2] st mem else ev X m_X5_duchy 78 [a0, a1, a2] st mem := ke_if_ne dX5_duchy_66 rfl
theorem eX5_duchy_69 : ev X m_X5_duchy 69 [a0, a1, a2] st mem = ev X m_X5_duchy 72 [a0, a1, a2] (vI (-1000) :: st) mem := ke_sipush (by decide) dX5_duchy_69
theorem eX5_duchy_72 : ev X m_X5_duchy 72 [vR r, a1, a2] st mem = ev X m_X5_duchy 73 [vR r, a1, a2] (vR r :: st) mem := ke_aload_n rfl dX5_duchy_72
theorem eX5_duchy_73 : ev X m_X5_duchy 73 [a0, a1, a2] (vR r :: st) mem = evb X (fget mem r 5 19) m_X5_duchy 76 [a0, a1, a2] st mem := ke_getf rfl dX5_duchy_73
theorem eX5_duchy_76 : ev X m_X5_duchy 76 [a0, a1, a2] (vI y :: vI x :: st) mem = ev X m_X5_duchy 77 [a0, a1, a2] (vI (w32 (x - y)) :: st) mem := ke_isub dX5_duchy_76
theorem eX5_duchy_77 : ev X m_X5_duchy 77 [a0, a1, a2] [vI x] mem = some (some (vI x), mem) := ke_ireturn dX5_duchy_77 rfl
theorem eX5_duchy_78 : ev X m_X5_duchy 78 [vR r, a1, a2] st mem = ev X m_X5_duchy 79 [vR r, a1, a2] (vR r :: st) mem := ke_aload_n rfl dX5_duchy_78
theorem eX5_duchy_79 : ev X m_X5_duchy 79 [a0, a1, a2] st mem = ev X m_X5_duchy 80 [a0, a1, a2] (vI 1 :: st) mem := ke_iconst (by decide) dX5_duchy_79
theorem eX5_duchy_80 : ev X m_X5_duchy 80 [a0, a1, a2] st mem = ev X m_X5_duchy 81 [a0, a1, a2] (vI 1 :: st) mem := ke_iconst (by decide) dX5_duchy_80
theorem eX5_duchy_81 : ev X m_X5_duchy 81 [a0, a1, a2] (vI n1 :: vI n0 :: vR r :: []) mem = evc X (gR mem r 5 (ev X m_X5_passesAll 0 [vR r, vI n0, vI n1] [] mem)) m_X5_duchy 84 [a0, a1, a2] [] := ke_callV (m' := m_X5_passesAll) (as := [vI n0, vI n1]) (n := 2) (rest := []) dX5_duchy_81 rfl rfl rfl rfl rfl rfl (Nat.le_of_ble_eq_true rfl) (Nat.le_of_ble_eq_true rfl) (Nat.le_of_ble_eq_true rfl) rfl
theorem eX5_duchy_84 : ev X m_X5_duchy 84 [a0, a1, a2] st mem = ev X m_X5_duchy 85 [a0, a1, a2] (vI 0 :: st) mem := ke_iconst (by decide) dX5_duchy_84
theorem eX5_duchy_85 : ev X m_X5_duchy 85 [a0, a1, a2] (vI x :: st) mem = ev X m_X5_duchy 86 [a0, a1, vI x] st mem := ke_istore_n (Nat.le_of_ble_eq_true rfl) rfl dX5_duchy_85
theorem eX5_duchy_86 : ev X m_X5_duchy 86 [a0, a1, vI x] st mem = ev X m_X5_duchy 87 [a0, a1, vI x] (vI x :: st) mem := ke_iload_n rfl dX5_duchy_86
theorem eX5_duchy_87 : ev X m_X5_duchy 87 [vR r, a1, a2] st mem = ev X m_X5_duchy 88 [vR r, a1, a2] (vR r :: st) mem := ke_aload_n rfl dX5_duchy_87
theorem eX5_duchy_88 : ev X m_X5_duchy 88 [a0, a1, a2] (vR r :: st) mem = evb X (fget mem r 5 20) m_X5_duchy 91 [a0, a1, a2] st mem := ke_getf rfl dX5_duchy_88
theorem eX5_duchy_91 : ev X m_X5_duchy 91 [a0, a1, a2] (vI y :: vI x :: st) mem = if x < y then ev X m_X5_duchy 94 [a0, a1, a2] st mem else ev X m_X5_duchy 128 [a0, a1, a2] st mem := ke_icmp_ge dX5_duchy_91 rfl
theorem eX5_duchy_94 : ev X m_X5_duchy 94 [vR r, a1, a2] st mem = ev X m_X5_duchy 95 [vR r, a1, a2] (vR r :: st) mem := ke_aload_n rfl dX5_duchy_94
theorem eX5_duchy_95 : ev X m_X5_duchy 95 [a0, a1, vI x] st mem = ev X m_X5_duchy 96 [a0, a1, vI x] (vI x :: st) mem := ke_iload_n rfl dX5_duchy_95
theorem eX5_duchy_96 : ev X m_X5_duchy 96 [a0, a1, a2] (vI n0 :: vR r :: []) mem = evc X (gR mem r 5 (ev X m_X5_comes 0 [vR r, vI n0, vS] [] mem)) m_X5_duchy 99 [a0, a1, a2] [] := ke_callV (m' := m_X5_comes) (as := [vI n0]) (n := 1) (rest := []) dX5_duchy_96 rfl rfl rfl rfl rfl rfl (Nat.le_of_ble_eq_true rfl) (Nat.le_of_ble_eq_true rfl) (Nat.le_of_ble_eq_true rfl) rfl
theorem eX5_duchy_99 : ev X m_X5_duchy 99 [a0, a1, a2] (vI x :: st) mem = if x = 0 then ev X m_X5_duchy 105 [a0, a1, a2] st mem else ev X m_X5_duchy 102 [a0, a1, a2] st mem := ke_if_eq dX5_duchy_99 rfl
theorem eX5_duchy_102 : ev X m_X5_duchy 102 [a0, a1, a2] st mem = ev X m_X5_duchy 122 [a0, a1, a2] st mem := ke_goto dX5_duchy_102 rfl
theorem eX5_duchy_105 : ev X m_X5_duchy 105 [vR r, a1, a2] st mem = ev X m_X5_duchy 106 [vR r, a1, a2] (vR r :: st) mem := ke_aload_n rfl dX5_duchy_105
theorem eX5_duchy_106 : ev X m_X5_duchy 106 [a0, a1, a2] st mem = ev X m_X5_duchy 107 [a0, a1, a2] (vI 1 :: st) mem := ke_iconst (by decide) dX5_duchy_106
theorem eX5_duchy_107 : ev X m_X5_duchy 107 [a0, a1, a2] st mem = ev X m_X5_duchy 108 [a0, a1, a2] (vI 0 :: st) mem := ke_iconst (by decide) dX5_duchy_107
theorem eX5_duchy_108 : ev X m_X5_duchy 108 [a0, a1, a2] (vI n1 :: vI n0 :: vR r :: []) mem = evc X (gR mem r 5 (ev X m_X5_passesAll 0 [vR r, vI n0, vI n1] [] mem)) m_X5_duchy 111 [a0, a1, a2] [] := ke_callV (m' := m_X5_passesAll) (as := [vI n0, vI n1]) (n := 2) (rest := []) dX5_duchy_108 rfl rfl rfl rfl rfl rfl (Nat.le_of_ble_eq_true rfl) (Nat.le_of_ble_eq_true rfl) (Nat.le_of_ble_eq_true rfl) rfl
theorem eX5_duchy_111 : ev X m_X5_duchy 111 [a0, a1, a2] st mem = ev X m_X5_duchy 114 [a0, a1, a2] (vI (-2000) :: st) mem := ke_sipush (by decide) dX5_duchy_111
theorem eX5_duchy_114 : ev X m_X5_duchy 114 [vR r, a1, a2] st mem = ev X m_X5_duchy 115 [vR r, a1, a2] (vR r :: st) mem := ke_aload_n rfl dX5_duchy_114
theorem eX5_duchy_115 : ev X m_X5_duchy 115 [a0, a1, a2] (vR r :: st) mem = evb X (fget mem r 5 16) m_X5_duchy 118 [a0, a1, a2] st mem := ke_getf rfl dX5_duchy_115
theorem eX5_duchy_118 : ev X m_X5_duchy 118 [a0, a1, vI x] st mem = ev X m_X5_duchy 119 [a0, a1, vI x] (vI x :: st) mem := ke_iload_n rfl dX5_duchy_118
theorem eX5_duchy_119 : ev X m_X5_duchy 119 [a0, a1, a2] (vI x :: vR r :: st) mem = evb X (aget mem r x) m_X5_duchy 120 [a0, a1, a2] st mem := ke_iaload dX5_duchy_119
theorem eX5_duchy_120 : ev X m_X5_duchy 120 [a0, a1, a2] (vI y :: vI x :: st) mem = ev X m_X5_duchy 121 [a0, a1, a2] (vI (w32 (x - y)) :: st) mem := ke_isub dX5_duchy_120
theorem eX5_duchy_121 : ev X m_X5_duchy 121 [a0, a1, a2] [vI x] mem = some (some (vI x), mem) := ke_ireturn dX5_duchy_121 rfl
theorem eX5_duchy_122 : ev X m_X5_duchy 122 [a0, a1, vI x] st mem = ev X m_X5_duchy 125 [a0, a1, vI (w32 (x + 1))] st mem := ke_iinc rfl (Nat.le_of_ble_eq_true rfl) rfl dX5_duchy_122
theorem eX5_duchy_125 : ev X m_X5_duchy 125 [a0, a1, a2] st mem = ev X m_X5_duchy 86 [a0, a1, a2] st mem := ke_goto dX5_duchy_125 rfl
theorem eX5_duchy_128 : ev X m_X5_duchy 128 [vR r, a1, a2] st mem = ev X m_X5_duchy 129 [vR r, a1, a2] (vR r :: st) mem := ke_aload_n rfl dX5_duchy_128
theorem eX5_duchy_129 : ev X m_X5_duchy 129 [a0, a1, a2] (vR r :: st) mem = evb X (fget mem r 5 20) m_X5_duchy 132 [a0, a1, a2] st mem := ke_getf rfl dX5_duchy_129
theorem eX5_duchy_132 : ev X m_X5_duchy 132 [a0, a1, a2] [vI x] mem = some (some (vI x), mem) := ke_ireturn dX5_duchy_132 rfl
theorem eX5_statement_0 : ev X m_X5_statement 0 [vR r, a1] st mem = ev X m_X5_statement 1 [vR r, a1] (vR r :: st) mem := ke_aload_n rfl dX5_statement_0
theorem eX5_statement_1 : ev X m_X5_statement 1 [a0, a1] (vR r :: []) mem = evc X (gR mem r 5 (ev X m_X5_next 0 [vR r] [] mem)) m_X5_statement 4 [a0, a1] [] := ke_callV (m' := m_X5_next) (as := []) (n := 0) (rest := []) dX5_statement_1 rfl rfl rfl rfl rfl rfl (Nat.le_of_ble_eq_true rfl) (Nat.le_of_ble_eq_true rfl) (Nat.le_of_ble_eq_true rfl) rfl
theorem eX5_statement_4 : ev X m_X5_statement 4 [a0, a1] (vI x :: st) mem = ev X m_X5_statement 5 [a0, vI x] st mem := ke_istore_n (Nat.le_of_ble_eq_true rfl) rfl dX5_statement_4
theorem eX5_statement_5 : ev X m_X5_statement 5 [a0, vI x] st mem = ev X m_X5_statement 6 [a0, vI x] (vI x :: st) mem := ke_iload_n rfl dX5_statement_5
theorem eX5_statement_6 : ev X m_X5_statement 6 [a0, a1] st mem = ev X m_X5_statement 8 [a0, a1] (vI 112 :: st) mem := ke_bipush (by decide) dX5_statement_6
theorem eX5_statement_8 : ev X m_X5_statement 8 [a0, a1] (vI y :: vI x :: st) mem = if x = y then ev X m_X5_statement 43 [a0, a1] st mem else ev X m_X5_statement 11 [a0, a1] st mem := ke_icmp_eq dX5_statement_8 rfl
theorem eX5_statement_11 : ev X m_X5_statement 11 [a0, vI x] st mem = ev X m_X5_statement 12 [a0, vI x] (vI x :: st) mem := ke_iload_n rfl dX5_statement_11
theorem eX5_statement_12 : ev X m_X5_statement 12 [a0, a1] st mem = ev X m_X5_statement 14 [a0, a1] (vI 104 :: st) mem := ke_bipush (by decide) dX5_statement_12
theorem eX5_statement_14 : ev X m_X5_statement 14 [a0, a1] (vI y :: vI x :: st) mem = if x = y then ev X m_X5_statement 43 [a0, a1] st mem else ev X m_X5_statement 17 [a0, a1] st mem := ke_icmp_eq dX5_statement_14 rfl
theorem eX5_statement_17 : ev X m_X5_statement 17 [a0, vI x] st mem = ev X m_X5_statement 18 [a0, vI x] (vI x :: st) mem := ke_iload_n rfl dX5_statement_17
theorem eX5_statement_18 : ev X m_X5_statement 18 [a0, a1] st mem = ev X m_X5_statement 20 [a0, a1] (vI 99 :: st) mem := ke_bipush (by decide) dX5_statement_18
theorem eX5_statement_20 : ev X m_X5_statement 20 [a0, a1] (vI y :: vI x :: st) mem = if x = y then ev X m_X5_statement 43 [a0, a1] st mem else ev X m_X5_statement 23 [a0, a1] st mem := ke_icmp_eq dX5_statement_20 rfl
theorem eX5_statement_23 : ev X m_X5_statement 23 [a0, vI x] st mem = ev X m_X5_statement 24 [a0, vI x] (vI x :: st) mem := ke_iload_n rfl dX5_statement_23
theorem eX5_statement_24 : ev X m_X5_statement 24 [a0, a1] st mem = ev X m_X5_statement 26 [a0, a1] (vI 115 :: st) mem := ke_bipush (by decide) dX5_statement_24
theorem eX5_statement_26 : ev X m_X5_statement 26 [a0, a1] (vI y :: vI x :: st) mem = if x = y then ev X m_X5_statement 43 [a0, a1] st mem else ev X m_X5_statement 29 [a0, a1] st mem := ke_icmp_eq dX5_statement_26 rfl
theorem eX5_statement_29 : ev X m_X5_statement 29 [a0, vI x] st mem = ev X m_X5_statement 30 [a0, vI x] (vI x :: st) mem := ke_iload_n rfl dX5_statement_29
theorem eX5_statement_30 : ev X m_X5_statement 30 [a0, a1] st mem = ev X m_X5_statement 32 [a0, a1] (vI 109 :: st) mem := ke_bipush (by decide) dX5_statement_30
theorem eX5_statement_32 : ev X m_X5_statement 32 [a0, a1] (vI y :: vI x :: st) mem = if x = y then ev X m_X5_statement 43 [a0, a1] st mem else ev X m_X5_statement 35 [a0, a1] st mem := ke_icmp_eq dX5_statement_32 rfl
theorem eX5_statement_35 : ev X m_X5_statement 35 [a0, vI x] st mem = ev X m_X5_statement 36 [a0, vI x] (vI x :: st) mem := ke_iload_n rfl dX5_statement_35
theorem eX5_statement_36 : ev X m_X5_statement 36 [a0, a1] st mem = ev X m_X5_statement 38 [a0, a1] (vI 100 :: st) mem := ke_bipush (by decide) dX5_statement_36
theorem eX5_statement_38 : ev X m_X5_statement 38 [a0, a1] (vI y :: vI x :: st) mem = if x = y then ev X m_X5_statement 43 [a0, a1] st mem else ev X m_X5_statement 41 [a0, a1] st mem := ke_icmp_eq dX5_statement_38 rfl
theorem eX5_statement_41 : ev X m_X5_statement 41 [a0, a1] st mem = ev X m_X5_statement 42 [a0, a1] (vI 0 :: st) mem := ke_iconst (by decide) dX5_statement_41
theorem eX5_statement_42a : ev X m_X5_statement 42 [a0, a1] [vI 1] mem = some (some (vI 1), mem) := ke_zreturn dX5_statement_42 rfl rfl
theorem eX5_statement_42b : ev X m_X5_statement 42 [a0, a1] [vI 0] mem = some (some (vI 0), mem) := ke_zreturn dX5_statement_42 rfl rfl
theorem eX5_statement_42c {c : Prop} [Decidable c] : ev X m_X5_statement 42 [a0, a1] [vI (if c then 1 else 0)] mem = some (some (vI (if c then 1 else 0)), mem) := ke_zreturn dX5_statement_42 rfl (by split <;> rfl)
theorem eX5_statement_43 : ev X m_X5_statement 43 [vR r, a1] st mem = ev X m_X5_statement 44 [vR r, a1] (vR r :: st) mem := ke_aload_n rfl dX5_statement_43
theorem eX5_statement_44 : ev X m_X5_statement 44 [a0, a1] (vR r :: st) mem = evb X (fget mem r 5 15) m_X5_statement 47 [a0, a1] st mem := ke_getf rfl dX5_statement_44
theorem eX5_statement_47 : ev X m_X5_statement 47 [vR r, a1] st mem = ev X m_X5_statement 48 [vR r, a1] (vR r :: st) mem := ke_aload_n rfl dX5_statement_47
theorem eX5_statement_48 : ev X m_X5_statement 48 [a0, a1] (vR r :: st) mem = evb X (fget mem r 5 20) m_X5_statement 51 [a0, a1] st mem := ke_getf rfl dX5_statement_48
theorem eX5_statement_51 : ev X m_X5_statement 51 [a0, vI x] st mem = ev X m_X5_statement 52 [a0, vI x] (vI x :: st) mem := ke_iload_n rfl dX5_statement_51
theorem eX5_statement_52 : ev X m_X5_statement 52 [a0, a1] (vI y :: vI x :: vR r :: st) mem = evm X (aput mem r x y) m_X5_statement 53 [a0, a1] st := ke_iastore dX5_statement_52
theorem eX5_statement_53 : ev X m_X5_statement 53 [vR r, a1] st mem = ev X m_X5_statement 54 [vR r, a1] (vR r :: st) mem := ke_aload_n rfl dX5_statement_53
theorem eX5_statement_54 : ev X m_X5_statement 54 [a0, a1] (vR r :: st) mem = evb X (fget mem r 5 16) m_X5_statement 57 [a0, a1] st mem := ke_getf rfl dX5_statement_54
theorem eX5_statement_57 : ev X m_X5_statement 57 [vR r, a1] st mem = ev X m_X5_statement 58 [vR r, a1] (vR r :: st) mem := ke_aload_n rfl dX5_statement_57
theorem eX5_statement_58 : ev X m_X5_statement 58 [a0, a1] (vR r :: st) mem = evb X (fget mem r 5 20) m_X5_statement 61 [a0, a1] st mem := ke_getf rfl dX5_statement_58
theorem eX5_statement_61 : ev X m_X5_statement 61 [vR r, a1] st mem = ev X m_X5_statement 62 [vR r, a1] (vR r :: st) mem := ke_aload_n rfl dX5_statement_61
theorem eX5_statement_62 : ev X m_X5_statement 62 [a0, a1] (vR r :: st) mem = evb X (fget mem r 5 19) m_X5_statement 65 [a0, a1] st mem := ke_getf rfl dX5_statement_62
theorem eX5_statement_65 : ev X m_X5_statement 65 [a0, a1] (vI y :: vI x :: vR r :: st) mem = evm X (aput mem r x y) m_X5_statement 66 [a0, a1] st := ke_iastore dX5_statement_65
theorem eX5_statement_66 : ev X m_X5_statement 66 [vR r, a1] st mem = ev X m_X5_statement 67 [vR r, a1] (vR r :: st) mem := ke_aload_n rfl dX5_statement_66
theorem eX5_statement_67 : ev X m_X5_statement 67 [a0, a1] (vI x :: st) mem = ev X m_X5_statement 68 [a0, a1] (vI x :: vI x :: st) mem := ke_dupI dX5_statement_67
theorem eX5_statement_67r : ev X m_X5_statement 67 [a0, a1] (vR r :: st) mem = ev X m_X5_statement 68 [a0, a1] (vR r :: vR r :: st) mem := ke_dupR dX5_statement_67
theorem eX5_statement_68 : ev X m_X5_statement 68 [a0, a1] (vR r :: st) mem = evb X (fget mem r 5 19) m_X5_statement 71 [a0, a1] st mem := ke_getf rfl dX5_statement_68
theorem eX5_statement_71 : ev X m_X5_statement 71 [a0, a1] st mem = ev X m_X5_statement 72 [a0, a1] (vI 1 :: st) mem := ke_iconst (by decide) dX5_statement_71
theorem eX5_statement_72 : ev X m_X5_statement 72 [a0, a1] (vI y :: vI x :: st) mem = ev X m_X5_statement 73 [a0, a1] (vI (w32 (x + y)) :: st) mem := ke_iadd dX5_statement_72
theorem eX5_statement_73 : ev X m_X5_statement 73 [a0, a1] (vI x :: vR r :: st) mem = evm X (fput mem r 5 19 (vI x)) m_X5_statement 76 [a0, a1] st := ke_putf rfl (by decide +kernel) dX5_statement_73
theorem eX5_statement_76 : ev X m_X5_statement 76 [vR r, a1] st mem = ev X m_X5_statement 77 [vR r, a1] (vR r :: st) mem := ke_aload_n rfl dX5_statement_76
theorem eX5_statement_77 : ev X m_X5_statement 77 [a0, vI x] st mem = ev X m_X5_statement 78 [a0, vI x] (vI x :: st) mem := ke_iload_n rfl dX5_statement_77
theorem eX5_statement_78 : ev X m_X5_statement 78 [a0, a1] st mem = ev X m_X5_statement 79 [a0, a1] (vI 3 :: st) mem := ke_iconst (by decide) dX5_statement_78
theorem eX5_statement_79 : ev X m_X5_statement 79 [vR r, a1] st mem = ev X m_X5_statement 80 [vR r, a1] (vR r :: st) mem := ke_aload_n rfl dX5_statement_79
theorem eX5_statement_80 : ev X m_X5_statement 80 [a0, a1] (vR r :: st) mem = evb X (fget mem r 5 20) m_X5_statement 83 [a0, a1] st mem := ke_getf rfl dX5_statement_80
theorem eX5_statement_83 : ev X m_X5_statement 83 [a0, a1] (vI y :: vI x :: st) mem = ev X m_X5_statement 84 [a0, a1] (vI (w32 (x * y)) :: st) mem := ke_imul dX5_statement_83
theorem eX5_statement_84 : ev X m_X5_statement 84 [a0, a1] (vI n1 :: vI n0 :: vR r :: []) mem = evc X (gR mem r 5 (ev X m_X5_readsAll 0 [vR r, vI n0, vI n1] [] mem)) m_X5_statement 87 [a0, a1] [] := ke_callV (m' := m_X5_readsAll) (as := [vI n0, vI n1]) (n := 2) (rest := []) dX5_statement_84 rfl rfl rfl rfl rfl rfl (Nat.le_of_ble_eq_true rfl) (Nat.le_of_ble_eq_true rfl) (Nat.le_of_ble_eq_true rfl) rfl
theorem eX5_statement_87 : ev X m_X5_statement 87 [a0, a1] (vI x :: st) mem = if x = 0 then ev X m_X5_statement 99 [a0, a1] st mem else ev X m_X5_statement 90 [a0, a1] st mem := ke_if_eq dX5_statement_87 rfl
theorem eX5_statement_90 : ev X m_X5_statement 90 [vR r, a1] st mem = ev X m_X5_statement 91 [vR r, a1] (vR r :: st) mem := ke_aload_n rfl dX5_statement_90
theorem eX5_statement_91 : ev X m_X5_statement 91 [a0, a1] (vR r :: []) mem = evc X (gR mem r 5 (ev X m_X5_next 0 [vR r] [] mem)) m_X5_statement 94 [a0, a1] [] := ke_callV (m' := m_X5_next) (as := []) (n := 0) (rest := []) dX5_statement_91 rfl rfl rfl rfl rfl rfl (Nat.le_of_ble_eq_true rfl) (Nat.le_of_ble_eq_true rfl) (Nat.le_of_ble_eq_true rfl) rfl
theorem eX5_statement_94 : ev X m_X5_statement 94 [a0, a1] st mem = ev X m_X5_statement 96 [a0, a1] (vI 59 :: st) mem := ke_bipush (by decide) dX5_statement_94
theorem eX5_statement_96 : ev X m_X5_statement 96 [a0, a1] (vI y :: vI x :: st) mem = if x = y then ev X m_X5_statement 101 [a0, a1] st mem else ev X m_X5_statement 99 [a0, a1] st mem := ke_icmp_eq dX5_statement_96 rfl
theorem eX5_statement_99 : ev X m_X5_statement 99 [a0, a1] st mem = ev X m_X5_statement 100 [a0, a1] (vI 0 :: st) mem := ke_iconst (by decide) dX5_statement_99
theorem eX5_statement_100a : ev X m_X5_statement 100 [a0, a1] [vI 1] mem = some (some (vI 1), mem) := ke_zreturn dX5_statement_100 rfl rfl
theorem eX5_statement_100b : ev X m_X5_statement 100 [a0, a1] [vI 0] mem = some (some (vI 0), mem) := ke_zreturn dX5_statement_100 rfl rfl
theorem eX5_statement_100c {c : Prop} [Decidable c] : ev X m_X5_statement 100 [a0, a1] [vI (if c then 1 else 0)] mem = some (some (vI (if c then 1 else 0)), mem) := ke_zreturn dX5_statement_100 rfl (by split <;> rfl)
theorem eX5_statement_101 : ev X m_X5_statement 101 [vR r, a1] st mem = ev X m_X5_statement 102 [vR r, a1] (vR r :: st) mem := ke_aload_n rfl dX5_statement_101
theorem eX5_statement_102 : ev X m_X5_statement 102 [a0, a1] (vI x :: st) mem = ev X m_X5_statement 103 [a0, a1] (vI x :: vI x :: st) mem := ke_dupI dX5_statement_102
theorem eX5_statement_102r : ev X m_X5_statement 102 [a0, a1] (vR r :: st) mem = ev X m_X5_statement 103 [a0, a1] (vR r :: vR r :: st) mem := ke_dupR dX5_statement_102
theorem eX5_statement_103 : ev X m_X5_statement 103 [a0, a1] (vR r :: st) mem = evb X (fget mem r 5 19) m_X5_statement 106 [a0, a1] st mem := ke_getf rfl dX5_statement_103
theorem eX5_statement_106 : ev X m_X5_statement 106 [a0, a1] st mem = ev X m_X5_statement 107 [a0, a1] (vI 1 :: st) mem := ke_iconst (by decide) dX5_statement_106
theorem eX5_statement_107 : ev X m_X5_statement 107 [a0, a1] (vI y :: vI x :: st) mem = ev X m_X5_statement 108 [a0, a1] (vI (w32 (x + y)) :: st) mem := ke_iadd dX5_statement_107
theorem eX5_statement_108 : ev X m_X5_statement 108 [a0, a1] (vI x :: vR r :: st) mem = evm X (fput mem r 5 19 (vI x)) m_X5_statement 111 [a0, a1] st := ke_putf rfl (by decide +kernel) dX5_statement_108
theorem eX5_statement_111 : ev X m_X5_statement 111 [a0, a1] st mem = ev X m_X5_statement 112 [a0, a1] (vI 1 :: st) mem := ke_iconst (by decide) dX5_statement_111
theorem eX5_statement_112a : ev X m_X5_statement 112 [a0, a1] [vI 1] mem = some (some (vI 1), mem) := ke_zreturn dX5_statement_112 rfl rfl
theorem eX5_statement_112b : ev X m_X5_statement 112 [a0, a1] [vI 0] mem = some (some (vI 0), mem) := ke_zreturn dX5_statement_112 rfl rfl
theorem eX5_statement_112c {c : Prop} [Decidable c] : ev X m_X5_statement 112 [a0, a1] [vI (if c then 1 else 0)] mem = some (some (vI (if c then 1 else 0)), mem) := ke_zreturn dX5_statement_112 rfl (by split <;> rfl)
theorem eX5_next_0 : ev X m_X5_next 0 [vR r] st mem = ev X m_X5_next 1 [vR r] (vR r :: st) mem := ke_aload_n rfl dX5_next_0
theorem eX5_next_1 : ev X m_X5_next 1 [a0] (vR r :: st) mem = evb X (fget mem r 5 19) m_X5_next 4 [a0] st mem := ke_getf rfl dX5_next_1
theorem eX5_next_4 : ev X m_X5_next 4 [vR r] st mem = ev X m_X5_next 5 [vR r] (vR r :: st) mem := ke_aload_n rfl dX5_next_4
theorem eX5_next_5 : ev X m_X5_next 5 [a0] (vR r :: st) mem = evb X (fget mem r 5 18) m_X5_next 8 [a0] st mem := ke_getf rfl dX5_next_5
theorem eX5_next_8 : ev X m_X5_next 8 [a0] (vI y :: vI x :: st) mem = if x < y then ev X m_X5_next 11 [a0] st mem else ev X m_X5_next 23 [a0] st mem := ke_icmp_ge dX5_next_8 rfl
theorem eX5_next_11 : ev X m_X5_next 11 [vR r] st mem = ev X m_X5_next 12 [vR r] (vR r :: st) mem := ke_aload_n rfl dX5_next_11
theorem eX5_next_12 : ev X m_X5_next 12 [a0] (vR r :: st) mem = evb X (fget mem r 5 14) m_X5_next 15 [a0] st mem := ke_getf rfl dX5_next_12
theorem eX5_next_15 : ev X m_X5_next 15 [vR r] st mem = ev X m_X5_next 16 [vR r] (vR r :: st) mem := ke_aload_n rfl dX5_next_15
theorem eX5_next_16 : ev X m_X5_next 16 [a0] (vR r :: st) mem = evb X (fget mem r 5 19) m_X5_next 19 [a0] st mem := ke_getf rfl dX5_next_16
theorem eX5_next_19 : ev X m_X5_next 19 [a0] (vI x :: vR r :: st) mem = evb X (aget mem r x) m_X5_next 20 [a0] st mem := ke_iaload dX5_next_19
theorem eX5_next_20 : ev X m_X5_next 20 [a0] st mem = ev X m_X5_next 24 [a0] st mem := ke_goto dX5_next_20 rfl
theorem eX5_next_23 : ev X m_X5_next 23 [a0] st mem = ev X m_X5_next 24 [a0] (vI (-1) :: st) mem := ke_iconst (by decide) dX5_next_23
theorem eX5_next_24 : ev X m_X5_next 24 [a0] [vI x] mem = some (some (vI x), mem) := ke_ireturn dX5_next_24 rfl
theorem eX5_readsAll_0 : ev X m_X5_readsAll 0 [a0, vI x, a2] st mem = ev X m_X5_readsAll 1 [a0, vI x, a2] (vI x :: st) mem := ke_iload_n rfl dX5_readsAll_0
theorem eX5_readsAll_1 : ev X m_X5_readsAll 1 [a0, a1, a2] (vI x :: st) mem = if x = 100 then ev X m_X5_readsAll 79 [a0, a1, a2] st mem else if x = 104 then ev X m_X5_readsAll 42 [a0, a1, a2] st mem else if x = 112 then ev X m_X5_readsAll 36 [a0, a1, a2] st mem else ev X m_X5_readsAll 86 [a0, a1, a2] st mem := by
  by_cases h0 : x = 100
  · subst h0; rw [if_pos rfl]; exact ke_swL dX5_readsAll_1 (by decide) (off := 78) (by decide) rfl
  rw [if_neg h0]
  by_cases h1 : x = 104
  · subst h1; rw [if_pos rfl]; exact ke_swL dX5_readsAll_1 (by decide) (off := 41) (by decide) rfl
  rw [if_neg h1]
  by_cases h2 : x = 112
  · subst h2; rw [if_pos rfl]; exact ke_swL dX5_readsAll_1 (by decide) (off := 35) (by decide) rfl
  rw [if_neg h2]
  exact ke_swL dX5_readsAll_1 (by decide) (off := 85) (by simp [Op.lookupswitch.offset, h0, Ne.symm h0, h1, Ne.symm h1, h2, Ne.symm h2]) rfl
theorem eX5_readsAll_36 : ev X m_X5_readsAll 36 [vR r, a1, a2] st mem = ev X m_X5_readsAll 37 [vR r, a1, a2] (vR r :: st) mem := ke_aload_n rfl dX5_readsAll_36
theorem eX5_readsAll_37 : ev X m_X5_readsAll 37 [a0, a1, vI x] st mem = ev X m_X5_readsAll 38 [a0, a1, vI x] (vI x :: st) mem := ke_iload_n rfl dX5_readsAll_37
theorem eX5_readsAll_38 : ev X m_X5_readsAll 38 [a0, a1, a2] (vI n0 :: vR r :: []) mem = evc X (gR mem r 5 (ev X m_X5_readsOne 0 [vR r, vI n0] [] mem)) m_X5_readsAll 41 [a0, a1, a2] [] := ke_callV (m' := m_X5_readsOne) (as := [vI n0]) (n := 1) (rest := []) dX5_readsAll_38 rfl rfl rfl rfl rfl rfl (Nat.le_of_ble_eq_true rfl) (Nat.le_of_ble_eq_true rfl) (Nat.le_of_ble_eq_true rfl) rfl
theorem eX5_readsAll_41a : ev X m_X5_readsAll 41 [a0, a1, a2] [vI 1] mem = some (some (vI 1), mem) := ke_zreturn dX5_readsAll_41 rfl rfl
theorem eX5_readsAll_41b : ev X m_X5_readsAll 41 [a0, a1, a2] [vI 0] mem = some (some (vI 0), mem) := ke_zreturn dX5_readsAll_41 rfl rfl
theorem eX5_readsAll_41c {c : Prop} [Decidable c] : ev X m_X5_readsAll 41 [a0, a1, a2] [vI (if c then 1 else 0)] mem = some (some (vI (if c then 1 else 0)), mem) := ke_zreturn dX5_readsAll_41 rfl (by split <;> rfl)
theorem eX5_readsAll_42 : ev X m_X5_readsAll 42 [vR r, a1, a2] st mem = ev X m_X5_readsAll 43 [vR r, a1, a2] (vR r :: st) mem := ke_aload_n rfl dX5_readsAll_42
theorem eX5_readsAll_43 : ev X m_X5_readsAll 43 [a0, a1, vI x] st mem = ev X m_X5_readsAll 44 [a0, a1, vI x] (vI x :: st) mem := ke_iload_n rfl dX5_readsAll_43
theorem eX5_readsAll_44 : ev X m_X5_readsAll 44 [a0, a1, a2] st mem = ev X m_X5_readsAll 45 [a0, a1, a2] (vI 1 :: st) mem := ke_iconst (by decide) dX5_readsAll_44
theorem eX5_readsAll_45 : ev X m_X5_readsAll 45 [a0, a1, a2] (vI n1 :: vI n0 :: vR r :: []) mem = evc X (gR mem r 5 (ev X m_X5_readsDigits 0 [vR r, vI n0, vI n1, vS, vS] [] mem)) m_X5_readsAll 48 [a0, a1, a2] [] := ke_callV (m' := m_X5_readsDigits) (as := [vI n0, vI n1]) (n := 2) (rest := []) dX5_readsAll_45 rfl rfl rfl rfl rfl rfl (Nat.le_of_ble_eq_true rfl) (Nat.le_of_ble_eq_true rfl) (Nat.le_of_ble_eq_true rfl) rfl
theorem eX5_readsAll_48 : ev X m_X5_readsAll 48 [a0, a1, a2] (vI x :: st) mem = if x = 0 then ev X m_X5_readsAll 77 [a0, a1, a2] st mem else ev X m_X5_readsAll 51 [a0, a1, a2] st mem := ke_if_eq dX5_readsAll_48 rfl
theorem eX5_readsAll_51 : ev X m_X5_readsAll 51 [vR r, a1, a2] st mem = ev X m_X5_readsAll 52 [vR r, a1, a2] (vR r :: st) mem := ke_aload_n rfl dX5_readsAll_51
theorem eX5_readsAll_52 : ev X m_X5_readsAll 52 [a0, a1, vI x] st mem = ev X m_X5_readsAll 53 [a0, a1, vI x] (vI x :: st) mem := ke_iload_n rfl dX5_readsAll_52
theorem eX5_readsAll_53 : ev X m_X5_readsAll 53 [a0, a1, a2] st mem = ev X m_X5_readsAll 54 [a0, a1, a2] (vI 1 :: st) mem := ke_iconst (by decide) dX5_readsAll_53
theorem eX5_readsAll_54 : ev X m_X5_readsAll 54 [a0, a1, a2] (vI y :: vI x :: st) mem = ev X m_X5_readsAll 55 [a0, a1, a2] (vI (w32 (x + y)) :: st) mem := ke_iadd dX5_readsAll_54
theorem eX5_readsAll_55 : ev X m_X5_readsAll 55 [a0, a1, a2] st mem = ev X m_X5_readsAll 56 [a0, a1, a2] (vI 1 :: st) mem := ke_iconst (by decide) dX5_readsAll_55
theorem eX5_readsAll_56 : ev X m_X5_readsAll 56 [a0, a1, a2] (vI n1 :: vI n0 :: vR r :: []) mem = evc X (gR mem r 5 (ev X m_X5_readsDigits 0 [vR r, vI n0, vI n1, vS, vS] [] mem)) m_X5_readsAll 59 [a0, a1, a2] [] := ke_callV (m' := m_X5_readsDigits) (as := [vI n0, vI n1]) (n := 2) (rest := []) dX5_readsAll_56 rfl rfl rfl rfl rfl rfl (Nat.le_of_ble_eq_true rfl) (Nat.le_of_ble_eq_true rfl) (Nat.le_of_ble_eq_true rfl) rfl
theorem eX5_readsAll_59 : ev X m_X5_readsAll 59 [a0, a1, a2] (vI x :: st) mem = if x = 0 then ev X m_X5_readsAll 77 [a0, a1, a2] st mem else ev X m_X5_readsAll 62 [a0, a1, a2] st mem := ke_if_eq dX5_readsAll_59 rfl
theorem eX5_readsAll_62 : ev X m_X5_readsAll 62 [vR r, a1, a2] st mem = ev X m_X5_readsAll 63 [vR r, a1, a2] (vR r :: st) mem := ke_aload_n rfl dX5_readsAll_62
theorem eX5_readsAll_63 : ev X m_X5_readsAll 63 [a0, a1, vI x] st mem = ev X m_X5_readsAll 64 [a0, a1, vI x] (vI x :: st) mem := ke_iload_n rfl dX5_readsAll_63
theorem eX5_readsAll_64 : ev X m_X5_readsAll 64 [a0, a1, a2] st mem = ev X m_X5_readsAll 65 [a0, a1, a2] (vI 2 :: st) mem := ke_iconst (by decide) dX5_readsAll_64
theorem eX5_readsAll_65 : ev X m_X5_readsAll 65 [a0, a1, a2] (vI y :: vI x :: st) mem = ev X m_X5_readsAll 66 [a0, a1, a2] (vI (w32 (x + y)) :: st) mem := ke_iadd dX5_readsAll_65
theorem eX5_readsAll_66 : ev X m_X5_readsAll 66 [a0, a1, a2] st mem = ev X m_X5_readsAll 67 [a0, a1, a2] (vI 2 :: st) mem := ke_iconst (by decide) dX5_readsAll_66
theorem eX5_readsAll_67 : ev X m_X5_readsAll 67 [a0, a1, a2] (vI n1 :: vI n0 :: vR r :: []) mem = evc X (gR mem r 5 (ev X m_X5_readsDigits 0 [vR r, vI n0, vI n1, vS, vS] [] mem)) m_X5_readsAll 70 [a0, a1, a2] [] := ke_callV (m' := m_X5_readsDigits) (as := [vI n0, vI n1]) (n := 2) (rest := []) dX5_readsAll_67 rfl rfl rfl rfl rfl rfl (Nat.le_of_ble_eq_true rfl) (Nat.le_of_ble_eq_true rfl) (Nat.le_of_ble_eq_true rfl) rfl
theorem eX5_readsAll_70 : ev X m_X5_readsAll 70 [a0, a1, a2] (vI x :: st) mem = if x = 0 then ev X m_X5_readsAll 77 [a0, a1, a2] st mem else ev X m_X5_readsAll 73 [a0, a1, a2] st mem := ke_if_eq dX5_readsAll_70 rfl
theorem eX5_readsAll_73 : ev X m_X5_readsAll 73 [a0, a1, a2] st mem = ev X m_X5_readsAll 74 [a0, a1, a2] (vI 1 :: st) mem := ke_iconst (by decide) dX5_readsAll_73
theorem eX5_readsAll_74 : ev X m_X5_readsAll 74 [a0, a1, a2] st mem = ev X m_X5_readsAll 78 [a0, a1, a2] st mem := ke_goto dX5_readsAll_74 rfl
theorem eX5_readsAll_77 : ev X m_X5_readsAll 77 [a0, a1, a2] st mem = ev X m_X5_readsAll 78 [a0, a1, a2] (vI 0 :: st) mem := ke_iconst (by decide) dX5_readsAll_77
theorem eX5_readsAll_78a : ev X m_X5_readsAll 78 [a0, a1, a2] [vI 1] mem = some (some (vI 1), mem) := ke_zreturn dX5_readsAll_78 rfl rfl
theorem eX5_readsAll_78b : ev X m_X5_readsAll 78 [a0, a1, a2] [vI 0] mem = some (some (vI 0), mem) := ke_zreturn dX5_readsAll_78 rfl rfl
theorem eX5_readsAll_78c {c : Prop} [Decidable c] : ev X m_X5_readsAll 78 [a0, a1, a2] [vI (if c then 1 else 0)] mem = some (some (vI (if c then 1 else 0)), mem) := ke_zreturn dX5_readsAll_78 rfl (by split <;> rfl)
theorem eX5_readsAll_79 : ev X m_X5_readsAll 79 [vR r, a1, a2] st mem = ev X m_X5_readsAll 80 [vR r, a1, a2] (vR r :: st) mem := ke_aload_n rfl dX5_readsAll_79
theorem eX5_readsAll_80 : ev X m_X5_readsAll 80 [a0, a1, vI x] st mem = ev X m_X5_readsAll 81 [a0, a1, vI x] (vI x :: st) mem := ke_iload_n rfl dX5_readsAll_80
theorem eX5_readsAll_81 : ev X m_X5_readsAll 81 [a0, a1, a2] st mem = ev X m_X5_readsAll 82 [a0, a1, a2] (vI 2 :: st) mem := ke_iconst (by decide) dX5_readsAll_81
theorem eX5_readsAll_82 : ev X m_X5_readsAll 82 [a0, a1, a2] (vI n1 :: vI n0 :: vR r :: []) mem = evc X (gR mem r 5 (ev X m_X5_readsDigits 0 [vR r, vI n0, vI n1, vS, vS] [] mem)) m_X5_readsAll 85 [a0, a1, a2] [] := ke_callV (m' := m_X5_readsDigits) (as := [vI n0, vI n1]) (n := 2) (rest := []) dX5_readsAll_82 rfl rfl rfl rfl rfl rfl (Nat.le_of_ble_eq_true rfl) (Nat.le_of_ble_eq_true rfl) (Nat.le_of_ble_eq_true rfl) rfl
theorem eX5_readsAll_85a : ev X m_X5_readsAll 85 [a0, a1, a2] [vI 1] mem = some (some (vI 1), mem) := ke_zreturn dX5_readsAll_85 rfl rfl
theorem eX5_readsAll_85b : ev X m_X5_readsAll 85 [a0, a1, a2] [vI 0] mem = some (some (vI 0), mem) := ke_zreturn dX5_readsAll_85 rfl rfl
theorem eX5_readsAll_85c {c : Prop} [Decidable c] : ev X m_X5_readsAll 85 [a0, a1, a2] [vI (if c then 1 else 0)] mem = some (some (vI (if c then 1 else 0)), mem) := ke_zreturn dX5_readsAll_85 rfl (by split <;> rfl)
theorem eX5_readsAll_86 : ev X m_X5_readsAll 86 [vR r, a1, a2] st mem = ev X m_X5_readsAll 87 [vR r, a1, a2] (vR r :: st) mem := ke_aload_n rfl dX5_readsAll_86
theorem eX5_readsAll_87 : ev X m_X5_readsAll 87 [a0, a1, vI x] st mem = ev X m_X5_readsAll 88 [a0, a1, vI x] (vI x :: st) mem := ke_iload_n rfl dX5_readsAll_87
theorem eX5_readsAll_88 : ev X m_X5_readsAll 88 [a0, a1, a2] st mem = ev X m_X5_readsAll 89 [a0, a1, a2] (vI 1 :: st) mem := ke_iconst (by decide) dX5_readsAll_88
theorem eX5_readsAll_89 : ev X m_X5_readsAll 89 [a0, a1, a2] (vI n1 :: vI n0 :: vR r :: []) mem = evc X (gR mem r 5 (ev X m_X5_readsDigits 0 [vR r, vI n0, vI n1, vS, vS] [] mem)) m_X5_readsAll 92 [a0, a1, a2] [] := ke_callV (m' := m_X5_readsDigits) (as := [vI n0, vI n1]) (n := 2) (rest := []) dX5_readsAll_89 rfl rfl rfl rfl rfl rfl (Nat.le_of_ble_eq_true rfl) (Nat.le_of_ble_eq_true rfl) (Nat.le_of_ble_eq_true rfl) rfl
theorem eX5_readsAll_92 : ev X m_X5_readsAll 92 [a0, a1, a2] (vI x :: st) mem = if x = 0 then ev X m_X5_readsAll 110 [a0, a1, a2] st mem else ev X m_X5_readsAll 95 [a0, a1, a2] st mem := ke_if_eq dX5_readsAll_92 rfl
theorem eX5_readsAll_95 : ev X m_X5_readsAll 95 [vR r, a1, a2] st mem = ev X m_X5_readsAll 96 [vR r, a1, a2] (vR r :: st) mem := ke_aload_n rfl dX5_readsAll_95
theorem eX5_readsAll_96 : ev X m_X5_readsAll 96 [a0, a1, vI x] st mem = ev X m_X5_readsAll 97 [a0, a1, vI x] (vI x :: st) mem := ke_iload_n rfl dX5_readsAll_96
theorem eX5_readsAll_97 : ev X m_X5_readsAll 97 [a0, a1, a2] st mem = ev X m_X5_readsAll 98 [a0, a1, a2] (vI 1 :: st) mem := ke_iconst (by decide) dX5_readsAll_97
theorem eX5_readsAll_98 : ev X m_X5_readsAll 98 [a0, a1, a2] (vI y :: vI x :: st) mem = ev X m_X5_readsAll 99 [a0, a1, a2] (vI (w32 (x + y)) :: st) mem := ke_iadd dX5_readsAll_98
theorem eX5_readsAll_99 : ev X m_X5_readsAll 99 [a0, a1, a2] st mem = ev X m_X5_readsAll 100 [a0, a1, a2] (vI 1 :: st) mem := ke_iconst (by decide) dX5_readsAll_99
theorem eX5_readsAll_100 : ev X m_X5_readsAll 100 [a0, a1, a2] (vI n1 :: vI n0 :: vR r :: []) mem = evc X (gR mem r 5 (ev X m_X5_readsDigits 0 [vR r, vI n0, vI n1, vS, vS] [] mem)) m_X5_readsAll 103 [a0, a1, a2] [] := ke_callV (m' := m_X5_readsDigits) (as := [vI n0, vI n1]) (n := 2) (rest := []) dX5_readsAll_100 rfl rfl rfl rfl rfl rfl (Nat.le_of_ble_eq_true rfl) (Nat.le_of_ble_eq_true rfl) (Nat.le_of_ble_eq_true rfl) rfl
theorem eX5_readsAll_103 : ev X m_X5_readsAll 103 [a0, a1, a2] (vI x :: st) mem = if x = 0 then ev X m_X5_readsAll 110 [a0, a1, a2] st mem else ev X m_X5_readsAll 106 [a0, a1, a2] st mem := ke_if_eq dX5_readsAll_103 rfl
theorem eX5_readsAll_106 : ev X m_X5_readsAll 106 [a0, a1, a2] st mem = ev X m_X5_readsAll 107 [a0, a1, a2] (vI 1 :: st) mem := ke_iconst (by decide) dX5_readsAll_106
theorem eX5_readsAll_107 : ev X m_X5_readsAll 107 [a0, a1, a2] st mem = ev X m_X5_readsAll 111 [a0, a1, a2] st mem := ke_goto dX5_readsAll_107 rfl
theorem eX5_readsAll_110 : ev X m_X5_readsAll 110 [a0, a1, a2] st mem = ev X m_X5_readsAll 111 [a0, a1, a2] (vI 0 :: st) mem := ke_iconst (by decide) dX5_readsAll_110
theorem eX5_readsAll_111a : ev X m_X5_readsAll 111 [a0, a1, a2] [vI 1] mem = some (some (vI 1), mem) := ke_zreturn dX5_readsAll_111 rfl rfl
theorem eX5_readsAll_111b : ev X m_X5_readsAll 111 [a0, a1, a2] [vI 0] mem = some (some (vI 0), mem) := ke_zreturn dX5_readsAll_111 rfl rfl
theorem eX5_readsAll_111c {c : Prop} [Decidable c] : ev X m_X5_readsAll 111 [a0, a1, a2] [vI (if c then 1 else 0)] mem = some (some (vI (if c then 1 else 0)), mem) := ke_zreturn dX5_readsAll_111 rfl (by split <;> rfl)
theorem eX5_readsOne_0 : ev X m_X5_readsOne 0 [vR r, a1] st mem = ev X m_X5_readsOne 1 [vR r, a1] (vR r :: st) mem := ke_aload_n rfl dX5_readsOne_0
theorem eX5_readsOne_1 : ev X m_X5_readsOne 1 [a0, a1] (vR r :: st) mem = evb X (fget mem r 5 17) m_X5_readsOne 4 [a0, a1] st mem := ke_getf rfl dX5_readsOne_1
theorem eX5_readsOne_4 : ev X m_X5_readsOne 4 [a0, vI x] st mem = ev X m_X5_readsOne 5 [a0, vI x] (vI x :: st) mem := ke_iload_n rfl dX5_readsOne_4
theorem eX5_readsOne_5 : ev X m_X5_readsOne 5 [vR r, a1] st mem = ev X m_X5_readsOne 6 [vR r, a1] (vR r :: st) mem := ke_aload_n rfl dX5_readsOne_5
theorem eX5_readsOne_6 : ev X m_X5_readsOne 6 [a0, a1] (vR r :: [s0, s1]) mem = evc X (gR mem r 5 (ev X m_X5_next 0 [vR r] [] mem)) m_X5_readsOne 9 [a0, a1] [s0, s1] := ke_callV (m' := m_X5_next) (as := []) (n := 0) (rest := [s0, s1]) dX5_readsOne_6 rfl rfl rfl rfl rfl rfl (Nat.le_of_ble_eq_true rfl) (Nat.le_of_ble_eq_true rfl) (Nat.le_of_ble_eq_true rfl) rfl
theorem eX5_readsOne_9 : ev X m_X5_readsOne 9 [a0, a1] (vI n0 :: [s0, s1]) mem = evc X (ev X m_X5_kindOf 0 [vI n0] [] mem) m_X5_readsOne 12 [a0, a1] [s0, s1] := ke_callS (m' := m_X5_kindOf) (as := [vI n0]) (n := 1) (rest := [s0, s1]) dX5_readsOne_9 rfl (by decide) rfl rfl rfl rfl rfl (Nat.le_of_ble_eq_true rfl) (Nat.le_of_ble_eq_true rfl) rfl
theorem eX5_readsOne_12 : ev X m_X5_readsOne 12 [a0, a1] (vI y :: vI x :: vR r :: st) mem = evm X (aput mem r x y) m_X5_readsOne 13 [a0, a1] st := ke_iastore dX5_readsOne_12
theorem eX5_readsOne_13 : ev X m_X5_readsOne 13 [vR r, a1] st mem = ev X m_X5_readsOne 14 [vR r, a1] (vR r :: st) mem := ke_aload_n rfl dX5_readsOne_13
theorem eX5_readsOne_14 : ev X m_X5_readsOne 14 [a0, a1] (vR r :: st) mem = evb X (fget mem r 5 17) m_X5_readsOne 17 [a0, a1] st mem := ke_getf rfl dX5_readsOne_14
theorem eX5_readsOne_17 : ev X m_X5_readsOne 17 [a0, vI x] st mem = ev X m_X5_readsOne 18 [a0, vI x] (vI x :: st) mem := ke_iload_n rfl dX5_readsOne_17
theorem eX5_readsOne_18 : ev X m_X5_readsOne 18 [a0, a1] (vI x :: vR r :: st) mem = evb X (aget mem r x) m_X5_readsOne 19 [a0, a1] st mem := ke_iaload dX5_readsOne_18
theorem eX5_readsOne_19 : ev X m_X5_readsOne 19 [a0, a1] (vI x :: st) mem = if x < 0 then ev X m_X5_readsOne 22 [a0, a1] st mem else ev X m_X5_readsOne 24 [a0, a1] st mem := ke_if_ge dX5_readsOne_19 rfl
theorem eX5_readsOne_22 : ev X m_X5_readsOne 22 [a0, a1] st mem = ev X m_X5_readsOne 23 [a0, a1] (vI 0 :: st) mem := ke_iconst (by decide) dX5_readsOne_22
theorem eX5_readsOne_23a : ev X m_X5_readsOne 23 [a0, a1] [vI 1] mem = some (some (vI 1), mem) := ke_zreturn dX5_readsOne_23 rfl rfl
theorem eX5_readsOne_23b : ev X m_X5_readsOne 23 [a0, a1] [vI 0] mem = some (some (vI 0), mem) := ke_zreturn dX5_readsOne_23 rfl rfl
theorem eX5_readsOne_23c {c : Prop} [Decidable c] : ev X m_X5_readsOne 23 [a0, a1] [vI (if c then 1 else 0)] mem = some (some (vI (if c then 1 else 0)), mem) := ke_zreturn dX5_readsOne_23 rfl (by split <;> rfl)
theorem eX5_readsOne_24 : ev X m_X5_readsOne 24 [vR r, a1] st mem = ev X m_X5_readsOne 25 [vR r, a1] (vR r :: st) mem := ke_aload_n rfl dX5_readsOne_24
theorem eX5_readsOne_25 : ev X m_X5_readsOne 25 [a0, a1] (vI x :: st) mem = ev X m_X5_readsOne 26 [a0, a1] (vI x :: vI x :: st) mem := ke_dupI dX5_readsOne_25
theorem eX5_readsOne_25r : ev X m_X5_readsOne 25 [a0, a1] (vR r :: st) mem = ev X m_X5_readsOne 26 [a0, a1] (vR r :: vR r :: st) mem := ke_dupR dX5_readsOne_25
theorem eX5_readsOne_26 : ev X m_X5_readsOne 26 [a0, a1] (vR r :: st) mem = evb X (fget mem r 5 19) m_X5_readsOne 29 [a0, a1] st mem := ke_getf rfl dX5_readsOne_26
theorem eX5_readsOne_29 : ev X m_X5_readsOne 29 [a0, a1] st mem = ev X m_X5_readsOne 30 [a0, a1] (vI 1 :: st) mem := ke_iconst (by decide) dX5_readsOne_29
theorem eX5_readsOne_30 : ev X m_X5_readsOne 30 [a0, a1] (vI y :: vI x :: st) mem = ev X m_X5_readsOne 31 [a0, a1] (vI (w32 (x + y)) :: st) mem := ke_iadd dX5_readsOne_30
theorem eX5_readsOne_31 : ev X m_X5_readsOne 31 [a0, a1] (vI x :: vR r :: st) mem = evm X (fput mem r 5 19 (vI x)) m_X5_readsOne 34 [a0, a1] st := ke_putf rfl (by decide +kernel) dX5_readsOne_31
theorem eX5_readsOne_34 : ev X m_X5_readsOne 34 [vR r, a1] st mem = ev X m_X5_readsOne 35 [vR r, a1] (vR r :: st) mem := ke_aload_n rfl dX5_readsOne_34
theorem eX5_readsOne_35 : ev X m_X5_readsOne 35 [a0, vI x] st mem = ev X m_X5_readsOne 36 [a0, vI x] (vI x :: st) mem := ke_iload_n rfl dX5_readsOne_35
theorem eX5_readsOne_36 : ev X m_X5_readsOne 36 [a0, a1] st mem = ev X m_X5_readsOne 37 [a0, a1] (vI 1 :: st) mem := ke_iconst (by decide) dX5_readsOne_36
theorem eX5_readsOne_37 : ev X m_X5_readsOne 37 [a0, a1] (vI y :: vI x :: st) mem = ev X m_X5_readsOne 38 [a0, a1] (vI (w32 (x + y)) :: st) mem := ke_iadd dX5_readsOne_37
theorem eX5_readsOne_38 : ev X m_X5_readsOne 38 [a0, a1] st mem = ev X m_X5_readsOne 39 [a0, a1] (vI 1 :: st) mem := ke_iconst (by decide) dX5_readsOne_38
theorem eX5_readsOne_39 : ev X m_X5_readsOne 39 [a0, a1] (vI n1 :: vI n0 :: vR r :: []) mem = evc X (gR mem r 5 (ev X m_X5_readsDigits 0 [vR r, vI n0, vI n1, vS, vS] [] mem)) m_X5_readsOne 42 [a0, a1] [] := ke_callV (m' := m_X5_readsDigits) (as := [vI n0, vI n1]) (n := 2) (rest := []) dX5_readsOne_39 rfl rfl rfl rfl rfl rfl (Nat.le_of_ble_eq_true rfl) (Nat.le_of_ble_eq_true rfl) (Nat.le_of_ble_eq_true rfl) rfl
theorem eX5_readsOne_42 : ev X m_X5_readsOne 42 [a0, a1] (vI x :: st) mem = if x = 0 then ev X m_X5_readsOne 60 [a0, a1] st mem else ev X m_X5_readsOne 45 [a0, a1] st mem := ke_if_eq dX5_readsOne_42 rfl
theorem eX5_readsOne_45 : ev X m_X5_readsOne 45 [vR r, a1] st mem = ev X m_X5_readsOne 46 [vR r, a1] (vR r :: st) mem := ke_aload_n rfl dX5_readsOne_45
theorem eX5_readsOne_46 : ev X m_X5_readsOne 46 [a0, vI x] st mem = ev X m_X5_readsOne 47 [a0, vI x] (vI x :: st) mem := ke_iload_n rfl dX5_readsOne_46
theorem eX5_readsOne_47 : ev X m_X5_readsOne 47 [a0, a1] st mem = ev X m_X5_readsOne 48 [a0, a1] (vI 2 :: st) mem := ke_iconst (by decide) dX5_readsOne_47
theorem eX5_readsOne_48 : ev X m_X5_readsOne 48 [a0, a1] (vI y :: vI x :: st) mem = ev X m_X5_readsOne 49 [a0, a1] (vI (w32 (x + y)) :: st) mem := ke_iadd dX5_readsOne_48
theorem eX5_readsOne_49 : ev X m_X5_readsOne 49 [a0, a1] st mem = ev X m_X5_readsOne 50 [a0, a1] (vI 2 :: st) mem := ke_iconst (by decide) dX5_readsOne_49
theorem eX5_readsOne_50 : ev X m_X5_readsOne 50 [a0, a1] (vI n1 :: vI n0 :: vR r :: []) mem = evc X (gR mem r 5 (ev X m_X5_readsDigits 0 [vR r, vI n0, vI n1, vS, vS] [] mem)) m_X5_readsOne 53 [a0, a1] [] := ke_callV (m' := m_X5_readsDigits) (as := [vI n0, vI n1]) (n := 2) (rest := []) dX5_readsOne_50 rfl rfl rfl rfl rfl rfl (Nat.le_of_ble_eq_true rfl) (Nat.le_of_ble_eq_true rfl) (Nat.le_of_ble_eq_true rfl) rfl
theorem eX5_readsOne_53 : ev X m_X5_readsOne 53 [a0, a1] (vI x :: st) mem = if x = 0 then ev X m_X5_readsOne 60 [a0, a1] st mem else ev X m_X5_readsOne 56 [a0, a1] st mem := ke_if_eq dX5_readsOne_53 rfl
theorem eX5_readsOne_56 : ev X m_X5_readsOne 56 [a0, a1] st mem = ev X m_X5_readsOne 57 [a0, a1] (vI 1 :: st) mem := ke_iconst (by decide) dX5_readsOne_56
theorem eX5_readsOne_57 : ev X m_X5_readsOne 57 [a0, a1] st mem = ev X m_X5_readsOne 61 [a0, a1] st mem := ke_goto dX5_readsOne_57 rfl
theorem eX5_readsOne_60 : ev X m_X5_readsOne 60 [a0, a1] st mem = ev X m_X5_readsOne 61 [a0, a1] (vI 0 :: st) mem := ke_iconst (by decide) dX5_readsOne_60
theorem eX5_readsOne_61a : ev X m_X5_readsOne 61 [a0, a1] [vI 1] mem = some (some (vI 1), mem) := ke_zreturn dX5_readsOne_61 rfl rfl
theorem eX5_readsOne_61b : ev X m_X5_readsOne 61 [a0, a1] [vI 0] mem = some (some (vI 0), mem) := ke_zreturn dX5_readsOne_61 rfl rfl
theorem eX5_readsOne_61c {c : Prop} [Decidable c] : ev X m_X5_readsOne 61 [a0, a1] [vI (if c then 1 else 0)] mem = some (some (vI (if c then 1 else 0)), mem) := ke_zreturn dX5_readsOne_61 rfl (by split <;> rfl)
theorem eX5_kindOf_0 : ev X m_X5_kindOf 0 [vI x] st mem = ev X m_X5_kindOf 1 [vI x] (vI x :: st) mem := ke_iload_n rfl dX5_kindOf_0
theorem eX5_kindOf_1 : ev X m_X5_kindOf 1 [a0] st mem = ev X m_X5_kindOf 3 [a0] (vI 112 :: st) mem := ke_bipush (by decide) dX5_kindOf_1
theorem eX5_kindOf_3 : ev X m_X5_kindOf 3 [a0] (vI y :: vI x :: st) mem = if x = y then ev X m_X5_kindOf 6 [a0] st mem else ev X m_X5_kindOf 10 [a0] st mem := ke_icmp_ne dX5_kindOf_3 rfl
theorem eX5_kindOf_6 : ev X m_X5_kindOf 6 [a0] st mem = ev X m_X5_kindOf 7 [a0] (vI 0 :: st) mem := ke_iconst (by decide) dX5_kindOf_6
theorem eX5_kindOf_7 : ev X m_X5_kindOf 7 [a0] st mem = ev X m_X5_kindOf 61 [a0] st mem := ke_goto dX5_kindOf_7 rfl
theorem eX5_kindOf_10 : ev X m_X5_kindOf 10 [vI x] st mem = ev X m_X5_kindOf 11 [vI x] (vI x :: st) mem := ke_iload_n rfl dX5_kindOf_10
theorem eX5_kindOf_11 : ev X m_X5_kindOf 11 [a0] st mem = ev X m_X5_kindOf 13 [a0] (vI 115 :: st) mem := ke_bipush (by decide) dX5_kindOf_11
theorem eX5_kindOf_13 : ev X m_X5_kindOf 13 [a0] (vI y :: vI x :: st) mem = if x = y then ev X m_X5_kindOf 16 [a0] st mem else ev X m_X5_kindOf 20 [a0] st mem := ke_icmp_ne dX5_kindOf_13 rfl
theorem eX5_kindOf_16 : ev X m_X5_kindOf 16 [a0] st mem = ev X m_X5_kindOf 17 [a0] (vI 1 :: st) mem := ke_iconst (by decide) dX5_kindOf_16
theorem eX5_kindOf_17 : ev X m_X5_kindOf 17 [a0] st mem = ev X m_X5_kindOf 61 [a0] st mem := ke_goto dX5_kindOf_17 rfl
theorem eX5_kindOf_20 : ev X m_X5_kindOf 20 [vI x] st mem = ev X m_X5_kindOf 21 [vI x] (vI x :: st) mem := ke_iload_n rfl dX5_kindOf_20
theorem eX5_kindOf_21 : ev X m_X5_kindOf 21 [a0] st mem = ev X m_X5_kindOf 23 [a0] (vI 114 :: st) mem := ke_bipush (by decide) dX5_kindOf_21
theorem eX5_kindOf_23 : ev X m_X5_kindOf 23 [a0] (vI y :: vI x :: st) mem = if x = y then ev X m_X5_kindOf 26 [a0] st mem else ev X m_X5_kindOf 30 [a0] st mem := ke_icmp_ne dX5_kindOf_23 rfl
theorem eX5_kindOf_26 : ev X m_X5_kindOf 26 [a0] st mem = ev X m_X5_kindOf 27 [a0] (vI 2 :: st) mem := ke_iconst (by decide) dX5_kindOf_26
theorem eX5_kindOf_27 : ev X m_X5_kindOf 27 [a0] st mem = ev X m_X5_kindOf 61 [a0] st mem := ke_goto dX5_kindOf_27 rfl
theorem eX5_kindOf_30 : ev X m_X5_kindOf 30 [vI x] st mem = ev X m_X5_kindOf 31 [vI x] (vI x :: st) mem := ke_iload_n rfl dX5_kindOf_30
theorem eX5_kindOf_31 : ev X m_X5_kindOf 31 [a0] st mem = ev X m_X5_kindOf 33 [a0] (vI 98 :: st) mem := ke_bipush (by decide) dX5_kindOf_31
theorem eX5_kindOf_33 : ev X m_X5_kindOf 33 [a0] (vI y :: vI x :: st) mem = if x = y then ev X m_X5_kindOf 36 [a0] st mem else ev X m_X5_kindOf 40 [a0] st mem := ke_icmp_ne dX5_kindOf_33 rfl
theorem eX5_kindOf_36 : ev X m_X5_kindOf 36 [a0] st mem = ev X m_X5_kindOf 37 [a0] (vI 3 :: st) mem := ke_iconst (by decide) dX5_kindOf_36
theorem eX5_kindOf_37 : ev X m_X5_kindOf 37 [a0] st mem = ev X m_X5_kindOf 61 [a0] st mem := ke_goto dX5_kindOf_37 rfl
theorem eX5_kindOf_40 : ev X m_X5_kindOf 40 [vI x] st mem = ev X m_X5_kindOf 41 [vI x] (vI x :: st) mem := ke_iload_n rfl dX5_kindOf_40
theorem eX5_kindOf_41 : ev X m_X5_kindOf 41 [a0] st mem = ev X m_X5_kindOf 43 [a0] (vI 108 :: st) mem := ke_bipush (by decide) dX5_kindOf_41
theorem eX5_kindOf_43 : ev X m_X5_kindOf 43 [a0] (vI y :: vI x :: st) mem = if x = y then ev X m_X5_kindOf 46 [a0] st mem else ev X m_X5_kindOf 50 [a0] st mem := ke_icmp_ne dX5_kindOf_43 rfl
theorem eX5_kindOf_46 : ev X m_X5_kindOf 46 [a0] st mem = ev X m_X5_kindOf 47 [a0] (vI 4 :: st) mem := ke_iconst (by decide) dX5_kindOf_46
theorem eX5_kindOf_47 : ev X m_X5_kindOf 47 [a0] st mem = ev X m_X5_kindOf 61 [a0] st mem := ke_goto dX5_kindOf_47 rfl
theorem eX5_kindOf_50 : ev X m_X5_kindOf 50 [vI x] st mem = ev X m_X5_kindOf 51 [vI x] (vI x :: st) mem := ke_iload_n rfl dX5_kindOf_50
theorem eX5_kindOf_51 : ev X m_X5_kindOf 51 [a0] st mem = ev X m_X5_kindOf 53 [a0] (vI 99 :: st) mem := ke_bipush (by decide) dX5_kindOf_51
theorem eX5_kindOf_53 : ev X m_X5_kindOf 53 [a0] (vI y :: vI x :: st) mem = if x = y then ev X m_X5_kindOf 56 [a0] st mem else ev X m_X5_kindOf 60 [a0] st mem := ke_icmp_ne dX5_kindOf_53 rfl
theorem eX5_kindOf_56 : ev X m_X5_kindOf 56 [a0] st mem = ev X m_X5_kindOf 57 [a0] (vI 5 :: st) mem := ke_iconst (by decide) dX5_kindOf_56
theorem eX5_kindOf_57 : ev X m_X5_kindOf 57 [a0] st mem = ev X m_X5_kindOf 61 [a0] st mem := ke_goto dX5_kindOf_57 rfl
theorem eX5_kindOf_60 : ev X m_X5_kindOf 60 [a0] st mem = ev X m_X5_kindOf 61 [a0] (vI (-1) :: st) mem := ke_iconst (by decide) dX5_kindOf_60
theorem eX5_kindOf_61 : ev X m_X5_kindOf 61 [a0] [vI x] mem = some (some (vI x), mem) := ke_ireturn dX5_kindOf_61 rfl
theorem eX5_readsDigits_0 : ev X m_X5_readsDigits 0 [a0, a1, a2, a3, a4] st mem = ev X m_X5_readsDigits 1 [a0, a1, a2, a3, a4] (vI 0 :: st) mem := ke_iconst (by decide) dX5_readsDigits_0
theorem eX5_readsDigits_1 : ev X m_X5_readsDigits 1 [a0, a1, a2, a3, a4] (vI x :: st) mem = ev X m_X5_readsDigits 2 [a0, a1, a2, vI x, a4] st mem := ke_istore_n (Nat.le_of_ble_eq_true rfl) rfl dX5_readsDigits_1
theorem eX5_readsDigits_2 : ev X m_X5_readsDigits 2 [a0, a1, a2, a3, a4] st mem = ev X m_X5_readsDigits 3 [a0, a1, a2, a3, a4] (vI 0 :: st) mem := ke_iconst (by decide) dX5_readsDigits_2
theorem eX5_readsDigits_3 : ev X m_X5_readsDigits 3 [a0, a1, a2, a3, a4] (vI x :: st) mem = ev X m_X5_readsDigits 5 [a0, a1, a2, a3, vI x] st mem := ke_istore (Nat.le_of_ble_eq_true rfl) rfl dX5_readsDigits_3
theorem eX5_readsDigits_5 : ev X m_X5_readsDigits 5 [a0, a1, a2, a3, vI x] st mem = ev X m_X5_readsDigits 7 [a0, a1, a2, a3, vI x] (vI x :: st) mem := ke_iload rfl dX5_readsDigits_5
theorem eX5_readsDigits_7 : ev X m_X5_readsDigits 7 [a0, a1, vI x, a3, a4] st mem = ev X m_X5_readsDigits 8 [a0, a1, vI x, a3, a4] (vI x :: st) mem := ke_iload_n rfl dX5_readsDigits_7
theorem eX5_readsDigits_8 : ev X m_X5_readsDigits 8 [a0, a1, a2, a3, a4] (vI y :: vI x :: st) mem = if x < y then ev X m_X5_readsDigits 11 [a0, a1, a2, a3, a4] st mem else ev X m_X5_readsDigits 56 [a0, a1, a2, a3, a4] st mem := ke_icmp_ge dX5_readsDigits_8 rfl
theorem eX5_readsDigits_11 : ev X m_X5_readsDigits 11 [vR r, a1, a2, a3, a4] st mem = ev X m_X5_readsDigits 12 [vR r, a1, a2, a3, a4] (vR r :: st) mem := ke_aload_n rfl dX5_readsDigits_11
theorem eX5_readsDigits_12 : ev X m_X5_readsDigits 12 [a0, a1, a2, a3, a4] (vR r :: []) mem = evc X (gR mem r 5 (ev X m_X5_next 0 [vR r] [] mem)) m_X5_readsDigits 15 [a0, a1, a2, a3, a4] [] := ke_callV (m' := m_X5_next) (as := []) (n := 0) (rest := []) dX5_readsDigits_12 rfl rfl rfl rfl rfl rfl (Nat.le_of_ble_eq_true rfl) (Nat.le_of_ble_eq_true rfl) (Nat.le_of_ble_eq_true rfl) rfl
theorem eX5_readsDigits_15 : ev X m_X5_readsDigits 15 [a0, a1, a2, a3, a4] st mem = ev X m_X5_readsDigits 17 [a0, a1, a2, a3, a4] (vI 48 :: st) mem := ke_bipush (by decide) dX5_readsDigits_15
theorem eX5_readsDigits_17 : ev X m_X5_readsDigits 17 [a0, a1, a2, a3, a4] st mem = ev X m_X5_readsDigits 19 [a0, a1, a2, a3, a4] (vI 57 :: st) mem := ke_bipush (by decide) dX5_readsDigits_17
theorem eX5_readsDigits_19 : ev X m_X5_readsDigits 19 [a0, a1, a2, a3, a4] (vI n2 :: vI n1 :: vI n0 :: []) mem = evc X (ev X m_X5_isIn 0 [vI n0, vI n1, vI n2] [] mem) m_X5_readsDigits 22 [a0, a1, a2, a3, a4] [] := ke_callS (m' := m_X5_isIn) (as := [vI n0, vI n1, vI n2]) (n := 3) (rest := []) dX5_readsDigits_19 rfl (by decide) rfl rfl rfl rfl rfl (Nat.le_of_ble_eq_true rfl) (Nat.le_of_ble_eq_true rfl) rfl
theorem eX5_readsDigits_22 : ev X m_X5_readsDigits 22 [a0, a1, a2, a3, a4] (vI x :: st) mem = if x = 0 then ev X m_X5_readsDigits 25 [a0, a1, a2, a3, a4] st mem else ev X m_X5_readsDigits 27 [a0, a1, a2, a3, a4] st mem := ke_if_ne dX5_readsDigits_22 rfl
theorem eX5_readsDigits_25 : ev X m_X5_readsDigits 25 [a0, a1, a2, a3, a4] st mem = ev X m_X5_readsDigits 26 [a0, a1, a2, a3, a4] (vI 0 :: st) mem := ke_iconst (by decide) dX5_readsDigits_25
theorem eX5_readsDigits_26a : ev X m_X5_readsDigits 26 [a0, a1, a2, a3, a4] [vI 1] mem = some (some (vI 1), mem) := ke_zreturn dX5_readsDigits_26 rfl rfl
theorem eX5_readsDigits_26b : ev X m_X5_readsDigits 26 [a0, a1, a2, a3, a4] [vI 0] mem = some (some (vI 0), mem) := ke_zreturn dX5_readsDigits_26 rfl rfl
theorem eX5_readsDigits_26c {c : Prop} [Decidable c] : ev X m_X5_readsDigits 26 [a0, a1, a2, a3, a4] [vI (if c then 1 else 0)] mem = some (some (vI (if c then 1 else 0)), mem) := ke_zreturn dX5_readsDigits_26 rfl (by split <;> rfl)
theorem eX5_readsDigits_27 : ev X m_X5_readsDigits 27 [a0, a1, a2, a3, a4] st mem = ev X m_X5_readsDigits 29 [a0, a1, a2, a3, a4] (vI 10 :: st) mem := ke_bipush (by decide) dX5_readsDigits_27
theorem eX5_readsDigits_29 : ev X m_X5_readsDigits 29 [a0, a1, a2, vI x, a4] st mem = ev X m_X5_readsDigits 30 [a0, a1, a2, vI x, a4] (vI x :: st) mem := ke_iload_n rfl dX5_readsDigits_29
theorem eX5_readsDigits_30 : ev X m_X5_readsDigits 30 [a0, a1, a2, a3, a4] (vI y :: vI x :: st) mem = ev X m_X5_readsDigits 31 [a0, a1, a2, a3, a4] (vI (w32 (x * y)) :: st) mem := ke_imul dX5_readsDigits_30
theorem eX5_readsDigits_31 : ev X m_X5_readsDigits 31 [vR r, a1, a2, a3, a4] st mem = ev X m_X5_readsDigits 32 [vR r, a1, a2, a3, a4] (vR r :: st) mem := ke_aload_n rfl dX5_readsDigits_31
theorem eX5_readsDigits_32 : ev X m_X5_readsDigits 32 [a0, a1, a2, a3, a4] (vR r :: [s0]) mem = evc X (gR mem r 5 (ev X m_X5_next 0 [vR r] [] mem)) m_X5_readsDigits 35 [a0, a1, a2, a3, a4] [s0] := ke_callV (m' := m_X5_next) (as := []) (n := 0) (rest := [s0]) dX5_readsDigits_32 rfl rfl rfl rfl rfl rfl (Nat.le_of_ble_eq_true rfl) (Nat.le_of_ble_eq_true rfl) (Nat.le_of_ble_eq_true rfl) rfl
theorem eX5_readsDigits_35 : ev X m_X5_readsDigits 35 [a0, a1, a2, a3, a4] (vI y :: vI x :: st) mem = ev X m_X5_readsDigits 36 [a0, a1, a2, a3, a4] (vI (w32 (x + y)) :: st) mem := ke_iadd dX5_readsDigits_35
theorem eX5_readsDigits_36 : ev X m_X5_readsDigits 36 [a0, a1, a2, a3, a4] st mem = ev X m_X5_readsDigits 38 [a0, a1, a2, a3, a4] (vI 48 :: st) mem := ke_bipush (by decide) dX5_readsDigits_36
theorem eX5_readsDigits_38 : ev X m_X5_readsDigits 38 [a0, a1, a2, a3, a4] (vI y :: vI x :: st) mem = ev X m_X5_readsDigits 39 [a0, a1, a2, a3, a4] (vI (w32 (x - y)) :: st) mem := ke_isub dX5_readsDigits_38
theorem eX5_readsDigits_39 : ev X m_X5_readsDigits 39 [a0, a1, a2, a3, a4] (vI x :: st) mem = ev X m_X5_readsDigits 40 [a0, a1, a2, vI x, a4] st mem := ke_istore_n (Nat.le_of_ble_eq_true rfl) rfl dX5_readsDigits_39
theorem eX5_readsDigits_40 : ev X m_X5_readsDigits 40 [vR r, a1, a2, a3, a4] st mem = ev X m_X5_readsDigits 41 [vR r, a1, a2, a3, a4] (vR r :: st) mem := ke_aload_n rfl dX5_readsDigits_40
theorem eX5_readsDigits_41 : ev X m_X5_readsDigits 41 [a0, a1, a2, a3, a4] (vI x :: st) mem = ev X m_X5_readsDigits 42 [a0, a1, a2, a3, a4] (vI x :: vI x :: st) mem := ke_dupI dX5_readsDigits_41
theorem eX5_readsDigits_41r : ev X m_X5_readsDigits 41 [a0, a1, a2, a3, a4] (vR r :: st) mem = ev X m_X5_readsDigits 42 [a0, a1, a2, a3, a4] (vR r :: vR r :: st) mem := ke_dupR dX5_readsDigits_41
theorem eX5_readsDigits_42 : ev X m_X5_readsDigits 42 [a0, a1, a2, a3, a4] (vR r :: st) mem = evb X (fget mem r 5 19) m_X5_readsDigits 45 [a0, a1, a2, a3, a4] st mem := ke_getf rfl dX5_readsDigits_42
theorem eX5_readsDigits_45 : ev X m_X5_readsDigits 45 [a0, a1, a2, a3, a4] st mem = ev X m_X5_readsDigits 46 [a0, a1, a2, a3, a4] (vI 1 :: st) mem := ke_iconst (by decide) dX5_readsDigits_45
theorem eX5_readsDigits_46 : ev X m_X5_readsDigits 46 [a0, a1, a2, a3, a4] (vI y :: vI x :: st) mem = ev X m_X5_readsDigits 47 [a0, a1, a2, a3, a4] (vI (w32 (x + y)) :: st) mem := ke_iadd dX5_readsDigits_46
theorem eX5_readsDigits_47 : ev X m_X5_readsDigits 47 [a0, a1, a2, a3, a4] (vI x :: vR r :: st) mem = evm X (fput mem r 5 19 (vI x)) m_X5_readsDigits 50 [a0, a1, a2, a3, a4] st := ke_putf rfl (by decide +kernel) dX5_readsDigits_47
theorem eX5_readsDigits_50 : ev X m_X5_readsDigits 50 [a0, a1, a2, a3, vI x] st mem = ev X m_X5_readsDigits 53 [a0, a1, a2, a3, vI (w32 (x + 1))] st mem := ke_iinc rfl (Nat.le_of_ble_eq_true rfl) rfl dX5_readsDigits_50
theorem eX5_readsDigits_53 : ev X m_X5_readsDigits 53 [a0, a1, a2, a3, a4] st mem = ev X m_X5_readsDigits 5 [a0, a1, a2, a3, a4] st mem := ke_goto dX5_readsDigits_53 rfl
theorem eX5_readsDigits_56 : ev X m_X5_readsDigits 56 [vR r, a1, a2, a3, a4] st mem = ev X m_X5_readsDigits 57 [vR r, a1, a2, a3, a4] (vR r :: st) mem := ke_aload_n rfl dX5_readsDigits_56
theorem eX5_readsDigits_57 : ev X m_X5_readsDigits 57 [a0, a1, a2, a3, a4] (vR r :: st) mem = evb X (fget mem r 5 17) m_X5_readsDigits 60 [a0, a1, a2, a3, a4] st mem := ke_getf rfl dX5_readsDigits_57
theorem eX5_readsDigits_60 : ev X m_X5_readsDigits 60 [a0, vI x, a2, a3, a4] st mem = ev X m_X5_readsDigits 61 [a0, vI x, a2, a3, a4] (vI x :: st) mem := ke_iload_n rfl dX5_readsDigits_60
theorem eX5_readsDigits_61 : ev X m_X5_readsDigits 61 [a0, a1, a2, vI x, a4] st mem = ev X m_X5_readsDigits 62 [a0, a1, a2, vI x, a4] (vI x :: st) mem := ke_iload_n rfl dX5_readsDigits_61
theorem eX5_readsDigits_62 : ev X m_X5_readsDigits 62 [a0, a1, a2, a3, a4] (vI y :: vI x :: vR r :: st) mem = evm X (aput mem r x y) m_X5_readsDigits 63 [a0, a1, a2, a3, a4] st := ke_iastore dX5_readsDigits_62
theorem eX5_readsDigits_63 : ev X m_X5_readsDigits 63 [a0, a1, a2, a3, a4] st mem = ev X m_X5_readsDigits 64 [a0, a1, a2, a3, a4] (vI 1 :: st) mem := ke_iconst (by decide) dX5_readsDigits_63
theorem eX5_readsDigits_64a : ev X m_X5_readsDigits 64 [a0, a1, a2, a3, a4] [vI 1] mem = some (some (vI 1), mem) := ke_zreturn dX5_readsDigits_64 rfl rfl
theorem eX5_readsDigits_64b : ev X m_X5_readsDigits 64 [a0, a1, a2, a3, a4] [vI 0] mem = some (some (vI 0), mem) := ke_zreturn dX5_readsDigits_64 rfl rfl
theorem eX5_readsDigits_64c {c : Prop} [Decidable c] : ev X m_X5_readsDigits 64 [a0, a1, a2, a3, a4] [vI (if c then 1 else 0)] mem = some (some (vI (if c then 1 else 0)), mem) := ke_zreturn dX5_readsDigits_64 rfl (by split <;> rfl)
theorem eX5_isIn_0 : ev X m_X5_isIn 0 [vI x, a1, a2] st mem = ev X m_X5_isIn 1 [vI x, a1, a2] (vI x :: st) mem := ke_iload_n rfl dX5_isIn_0
theorem eX5_isIn_1 : ev X m_X5_isIn 1 [a0, vI x, a2] st mem = ev X m_X5_isIn 2 [a0, vI x, a2] (vI x :: st) mem := ke_iload_n rfl dX5_isIn_1
theorem eX5_isIn_2 : ev X m_X5_isIn 2 [a0, a1, a2] (vI y :: vI x :: st) mem = if x < y then ev X m_X5_isIn 14 [a0, a1, a2] st mem else ev X m_X5_isIn 5 [a0, a1, a2] st mem := ke_icmp_lt dX5_isIn_2 rfl
theorem eX5_isIn_5 : ev X m_X5_isIn 5 [vI x, a1, a2] st mem = ev X m_X5_isIn 6 [vI x, a1, a2] (vI x :: st) mem := ke_iload_n rfl dX5_isIn_5
theorem eX5_isIn_6 : ev X m_X5_isIn 6 [a0, a1, vI x] st mem = ev X m_X5_isIn 7 [a0, a1, vI x] (vI x :: st) mem := ke_iload_n rfl dX5_isIn_6
theorem eX5_isIn_7 : ev X m_X5_isIn 7 [a0, a1, a2] (vI y :: vI x :: st) mem = if y < x then ev X m_X5_isIn 14 [a0, a1, a2] st mem else ev X m_X5_isIn 10 [a0, a1, a2] st mem := ke_icmp_gt dX5_isIn_7 rfl
theorem eX5_isIn_10 : ev X m_X5_isIn 10 [a0, a1, a2] st mem = ev X m_X5_isIn 11 [a0, a1, a2] (vI 1 :: st) mem := ke_iconst (by decide) dX5_isIn_10
theorem eX5_isIn_11 : ev X m_X5_isIn 11 [a0, a1, a2] st mem = ev X m_X5_isIn 15 [a0, a1, a2] st mem := ke_goto dX5_isIn_11 rfl
theorem eX5_isIn_14 : ev X m_X5_isIn 14 [a0, a1, a2] st mem = ev X m_X5_isIn 15 [a0, a1, a2] (vI 0 :: st) mem := ke_iconst (by decide) dX5_isIn_14
theorem eX5_isIn_15a : ev X m_X5_isIn 15 [a0, a1, a2] [vI 1] mem = some (some (vI 1), mem) := ke_zreturn dX5_isIn_15 rfl rfl
theorem eX5_isIn_15b : ev X m_X5_isIn 15 [a0, a1, a2] [vI 0] mem = some (some (vI 0), mem) := ke_zreturn dX5_isIn_15 rfl rfl
theorem eX5_isIn_15c {c : Prop} [Decidable c] : ev X m_X5_isIn 15 [a0, a1, a2] [vI (if c then 1 else 0)] mem = some (some (vI (if c then 1 else 0)), mem) := ke_zreturn dX5_isIn_15 rfl (by split <;> rfl)
theorem eX5_passesAll_0 : ev X m_X5_passesAll 0 [vR r, a1, a2] st mem = ev X m_X5_passesAll 1 [vR r, a1, a2] (vR r :: st) mem := ke_aload_n rfl dX5_passesAll_0
theorem eX5_passesAll_1 : ev X m_X5_passesAll 1 [a0, a1, a2] st mem = ev X m_X5_passesAll 3 [a0, a1, a2] (vI 103 :: st) mem := ke_bipush (by decide) dX5_passesAll_1
theorem eX5_passesAll_3 : ev X m_X5_passesAll 3 [a0, vI x, a2] st mem = ev X m_X5_passesAll 4 [a0, vI x, a2] (vI x :: st) mem := ke_iload_n rfl dX5_passesAll_3
theorem eX5_passesAll_4 : ev X m_X5_passesAll 4 [a0, a1, a2] (vI y :: vI x :: st) mem = ev X m_X5_passesAll 5 [a0, a1, a2] (vI (w32 (x * y)) :: st) mem := ke_imul dX5_passesAll_4
theorem eX5_passesAll_5 : ev X m_X5_passesAll 5 [a0, a1, a2] (vI x :: vR r :: st) mem = evm X (fput mem r 5 24 (vI x)) m_X5_passesAll 8 [a0, a1, a2] st := ke_putf rfl (by decide +kernel) dX5_passesAll_5
theorem eX5_passesAll_8 : ev X m_X5_passesAll 8 [vR r, a1, a2] st mem = ev X m_X5_passesAll 9 [vR r, a1, a2] (vR r :: st) mem := ke_aload_n rfl dX5_passesAll_8
theorem eX5_passesAll_9 : ev X m_X5_passesAll 9 [a0, a1, vI x] st mem = ev X m_X5_passesAll 10 [a0, a1, vI x] (vI x :: st) mem := ke_iload_n rfl dX5_passesAll_9
theorem eX5_passesAll_10 (hz : x = 0 ∨ x = 1) : ev X m_X5_passesAll 10 [a0, a1, a2] (vI x :: vR r :: st) mem = evm X (fput mem r 5 23 (vI x)) m_X5_passesAll 13 [a0, a1, a2] st := ke_putz rfl (by decide +kernel) hz dX5_passesAll_10
theorem eX5_passesAll_13 : ev X m_X5_passesAll 13 [vR r, a1, a2] st mem = ev X m_X5_passesAll 14 [vR r, a1, a2] (vR r :: st) mem := ke_aload_n rfl dX5_passesAll_13
theorem eX5_passesAll_14 : ev X m_X5_passesAll 14 [vR r, a1, a2] st mem = ev X m_X5_passesAll 15 [vR r, a1, a2] (vR r :: st) mem := ke_aload_n rfl dX5_passesAll_14
theorem eX5_passesAll_15 : ev X m_X5_passesAll 15 [a0, a1, a2] (vR r :: st) mem = evb X (fget mem r 5 1) m_X5_passesAll 18 [a0, a1, a2] st mem := ke_getf rfl dX5_passesAll_15
theorem eX5_passesAll_18 : ev X m_X5_passesAll 18 [a0, a1, a2] (vR r0 :: vR r :: []) mem = evc X (gR mem r 5 (ev X m_X5_passes 0 [vR r, vR r0, vS] [] mem)) m_X5_passesAll 21 [a0, a1, a2] [] := ke_callV (m' := m_X5_passes) (as := [vR r0]) (n := 1) (rest := []) dX5_passesAll_18 rfl rfl rfl rfl rfl rfl (Nat.le_of_ble_eq_true rfl) (Nat.le_of_ble_eq_true rfl) (Nat.le_of_ble_eq_true rfl) rfl
theorem eX5_passesAll_21 : ev X m_X5_passesAll 21 [vR r, a1, a2] st mem = ev X m_X5_passesAll 22 [vR r, a1, a2] (vR r :: st) mem := ke_aload_n rfl dX5_passesAll_21
theorem eX5_passesAll_22 : ev X m_X5_passesAll 22 [vR r, a1, a2] st mem = ev X m_X5_passesAll 23 [vR r, a1, a2] (vR r :: st) mem := ke_aload_n rfl dX5_passesAll_22
theorem eX5_passesAll_23 : ev X m_X5_passesAll 23 [a0, a1, a2] (vR r :: st) mem = evb X (fget mem r 5 2) m_X5_passesAll 26 [a0, a1, a2] st mem := ke_getf rfl dX5_passesAll_23
theorem eX5_passesAll_26 : ev X m_X5_passesAll 26 [a0, a1, a2] (vR r0 :: vR r :: []) mem = evc X (gR mem r 5 (ev X m_X5_passes 0 [vR r, vR r0, vS] [] mem)) m_X5_passesAll 29 [a0, a1, a2] [] := ke_callV (m' := m_X5_passes) (as := [vR r0]) (n := 1) (rest := []) dX5_passesAll_26 rfl rfl rfl rfl rfl rfl (Nat.le_of_ble_eq_true rfl) (Nat.le_of_ble_eq_true rfl) (Nat.le_of_ble_eq_true rfl) rfl
theorem eX5_passesAll_29 : ev X m_X5_passesAll 29 [vR r, a1, a2] st mem = ev X m_X5_passesAll 30 [vR r, a1, a2] (vR r :: st) mem := ke_aload_n rfl dX5_passesAll_29
theorem eX5_passesAll_30 : ev X m_X5_passesAll 30 [vR r, a1, a2] st mem = ev X m_X5_passesAll 31 [vR r, a1, a2] (vR r :: st) mem := ke_aload_n rfl dX5_passesAll_30
theorem eX5_passesAll_31 : ev X m_X5_passesAll 31 [a0, a1, a2] (vR r :: st) mem = evb X (fget mem r 5 3) m_X5_passesAll 34 [a0, a1, a2] st mem := ke_getf rfl dX5_passesAll_31
theorem eX5_passesAll_34 : ev X m_X5_passesAll 34 [a0, a1, a2] (vR r0 :: vR r :: []) mem = evc X (gR mem r 5 (ev X m_X5_passes 0 [vR r, vR r0, vS] [] mem)) m_X5_passesAll 37 [a0, a1, a2] [] := ke_callV (m' := m_X5_passes) (as := [vR r0]) (n := 1) (rest := []) dX5_passesAll_34 rfl rfl rfl rfl rfl rfl (Nat.le_of_ble_eq_true rfl) (Nat.le_of_ble_eq_true rfl) (Nat.le_of_ble_eq_true rfl) rfl
theorem eX5_passesAll_37 : ev X m_X5_passesAll 37 [vR r, a1, a2] st mem = ev X m_X5_passesAll 38 [vR r, a1, a2] (vR r :: st) mem := ke_aload_n rfl dX5_passesAll_37
theorem eX5_passesAll_38 : ev X m_X5_passesAll 38 [vR r, a1, a2] st mem = ev X m_X5_passesAll 39 [vR r, a1, a2] (vR r :: st) mem := ke_aload_n rfl dX5_passesAll_38
theorem eX5_passesAll_39 : ev X m_X5_passesAll 39 [a0, a1, a2] (vR r :: st) mem = evb X (fget mem r 5 4) m_X5_passesAll 42 [a0, a1, a2] st mem := ke_getf rfl dX5_passesAll_39
theorem eX5_passesAll_42 : ev X m_X5_passesAll 42 [a0, a1, a2] (vR r0 :: vR r :: []) mem = evc X (gR mem r 5 (ev X m_X5_passes 0 [vR r, vR r0, vS] [] mem)) m_X5_passesAll 45 [a0, a1, a2] [] := ke_callV (m' := m_X5_passes) (as := [vR r0]) (n := 1) (rest := []) dX5_passesAll_42 rfl rfl rfl rfl rfl rfl (Nat.le_of_ble_eq_true rfl) (Nat.le_of_ble_eq_true rfl) (Nat.le_of_ble_eq_true rfl) rfl
theorem eX5_passesAll_45 : ev X m_X5_passesAll 45 [vR r, a1, a2] st mem = ev X m_X5_passesAll 46 [vR r, a1, a2] (vR r :: st) mem := ke_aload_n rfl dX5_passesAll_45
theorem eX5_passesAll_46 : ev X m_X5_passesAll 46 [vR r, a1, a2] st mem = ev X m_X5_passesAll 47 [vR r, a1, a2] (vR r :: st) mem := ke_aload_n rfl dX5_passesAll_46
theorem eX5_passesAll_47 : ev X m_X5_passesAll 47 [a0, a1, a2] (vR r :: st) mem = evb X (fget mem r 5 5) m_X5_passesAll 50 [a0, a1, a2] st mem := ke_getf rfl dX5_passesAll_47
theorem eX5_passesAll_50 : ev X m_X5_passesAll 50 [a0, a1, a2] (vR r0 :: vR r :: []) mem = evc X (gR mem r 5 (ev X m_X5_passes 0 [vR r, vR r0, vS] [] mem)) m_X5_passesAll 53 [a0, a1, a2] [] := ke_callV (m' := m_X5_passes) (as := [vR r0]) (n := 1) (rest := []) dX5_passesAll_50 rfl rfl rfl rfl rfl rfl (Nat.le_of_ble_eq_true rfl) (Nat.le_of_ble_eq_true rfl) (Nat.le_of_ble_eq_true rfl) rfl
theorem eX5_passesAll_53 : ev X m_X5_passesAll 53 [vR r, a1, a2] st mem = ev X m_X5_passesAll 54 [vR r, a1, a2] (vR r :: st) mem := ke_aload_n rfl dX5_passesAll_53
theorem eX5_passesAll_54 : ev X m_X5_passesAll 54 [vR r, a1, a2] st mem = ev X m_X5_passesAll 55 [vR r, a1, a2] (vR r :: st) mem := ke_aload_n rfl dX5_passesAll_54
theorem eX5_passesAll_55 : ev X m_X5_passesAll 55 [a0, a1, a2] (vR r :: st) mem = evb X (fget mem r 5 6) m_X5_passesAll 58 [a0, a1, a2] st mem := ke_getf rfl dX5_passesAll_55
theorem eX5_passesAll_58 : ev X m_X5_passesAll 58 [a0, a1, a2] (vR r0 :: vR r :: []) mem = evc X (gR mem r 5 (ev X m_X5_passes 0 [vR r, vR r0, vS] [] mem)) m_X5_passesAll 61 [a0, a1, a2] [] := ke_callV (m' := m_X5_passes) (as := [vR r0]) (n := 1) (rest := []) dX5_passesAll_58 rfl rfl rfl rfl rfl rfl (Nat.le_of_ble_eq_true rfl) (Nat.le_of_ble_eq_true rfl) (Nat.le_of_ble_eq_true rfl) rfl
theorem eX5_passesAll_61 : ev X m_X5_passesAll 61 [vR r, a1, a2] st mem = ev X m_X5_passesAll 62 [vR r, a1, a2] (vR r :: st) mem := ke_aload_n rfl dX5_passesAll_61
theorem eX5_passesAll_62 : ev X m_X5_passesAll 62 [vR r, a1, a2] st mem = ev X m_X5_passesAll 63 [vR r, a1, a2] (vR r :: st) mem := ke_aload_n rfl dX5_passesAll_62
theorem eX5_passesAll_63 : ev X m_X5_passesAll 63 [a0, a1, a2] (vR r :: st) mem = evb X (fget mem r 5 7) m_X5_passesAll 66 [a0, a1, a2] st mem := ke_getf rfl dX5_passesAll_63
theorem eX5_passesAll_66 : ev X m_X5_passesAll 66 [a0, a1, a2] (vR r0 :: vR r :: []) mem = evc X (gR mem r 5 (ev X m_X5_passes 0 [vR r, vR r0, vS] [] mem)) m_X5_passesAll 69 [a0, a1, a2] [] := ke_callV (m' := m_X5_passes) (as := [vR r0]) (n := 1) (rest := []) dX5_passesAll_66 rfl rfl rfl rfl rfl rfl (Nat.le_of_ble_eq_true rfl) (Nat.le_of_ble_eq_true rfl) (Nat.le_of_ble_eq_true rfl) rfl
theorem eX5_passesAll_69 : ev X m_X5_passesAll 69 [vR r, a1, a2] st mem = ev X m_X5_passesAll 70 [vR r, a1, a2] (vR r :: st) mem := ke_aload_n rfl dX5_passesAll_69
theorem eX5_passesAll_70 : ev X m_X5_passesAll 70 [vR r, a1, a2] st mem = ev X m_X5_passesAll 71 [vR r, a1, a2] (vR r :: st) mem := ke_aload_n rfl dX5_passesAll_70
theorem eX5_passesAll_71 : ev X m_X5_passesAll 71 [a0, a1, a2] (vR r :: st) mem = evb X (fget mem r 5 8) m_X5_passesAll 74 [a0, a1, a2] st mem := ke_getf rfl dX5_passesAll_71
theorem eX5_passesAll_74 : ev X m_X5_passesAll 74 [a0, a1, a2] (vR r0 :: vR r :: []) mem = evc X (gR mem r 5 (ev X m_X5_passes 0 [vR r, vR r0, vS] [] mem)) m_X5_passesAll 77 [a0, a1, a2] [] := ke_callV (m' := m_X5_passes) (as := [vR r0]) (n := 1) (rest := []) dX5_passesAll_74 rfl rfl rfl rfl rfl rfl (Nat.le_of_ble_eq_true rfl) (Nat.le_of_ble_eq_true rfl) (Nat.le_of_ble_eq_true rfl) rfl
theorem eX5_passesAll_77 : ev X m_X5_passesAll 77 [vR r, a1, a2] st mem = ev X m_X5_passesAll 78 [vR r, a1, a2] (vR r :: st) mem := ke_aload_n rfl dX5_passesAll_77
theorem eX5_passesAll_78 : ev X m_X5_passesAll 78 [vR r, a1, a2] st mem = ev X m_X5_passesAll 79 [vR r, a1, a2] (vR r :: st) mem := ke_aload_n rfl dX5_passesAll_78
theorem eX5_passesAll_79 : ev X m_X5_passesAll 79 [a0, a1, a2] (vR r :: st) mem = evb X (fget mem r 5 9) m_X5_passesAll 82 [a0, a1, a2] st mem := ke_getf rfl dX5_passesAll_79
theorem eX5_passesAll_82 : ev X m_X5_passesAll 82 [a0, a1, a2] (vR r0 :: vR r :: []) mem = evc X (gR mem r 5 (ev X m_X5_passes 0 [vR r, vR r0, vS] [] mem)) m_X5_passesAll 85 [a0, a1, a2] [] := ke_callV (m' := m_X5_passes) (as := [vR r0]) (n := 1) (rest := []) dX5_passesAll_82 rfl rfl rfl rfl rfl rfl (Nat.le_of_ble_eq_true rfl) (Nat.le_of_ble_eq_true rfl) (Nat.le_of_ble_eq_true rfl) rfl
theorem eX5_passesAll_85 : ev X m_X5_passesAll 85 [vR r, a1, a2] st mem = ev X m_X5_passesAll 86 [vR r, a1, a2] (vR r :: st) mem := ke_aload_n rfl dX5_passesAll_85
theorem eX5_passesAll_86 : ev X m_X5_passesAll 86 [vR r, a1, a2] st mem = ev X m_X5_passesAll 87 [vR r, a1, a2] (vR r :: st) mem := ke_aload_n rfl dX5_passesAll_86
theorem eX5_passesAll_87 : ev X m_X5_passesAll 87 [a0, a1, a2] (vR r :: st) mem = evb X (fget mem r 5 10) m_X5_passesAll 90 [a0, a1, a2] st mem := ke_getf rfl dX5_passesAll_87
theorem eX5_passesAll_90 : ev X m_X5_passesAll 90 [a0, a1, a2] (vR r0 :: vR r :: []) mem = evc X (gR mem r 5 (ev X m_X5_passes 0 [vR r, vR r0, vS] [] mem)) m_X5_passesAll 93 [a0, a1, a2] [] := ke_callV (m' := m_X5_passes) (as := [vR r0]) (n := 1) (rest := []) dX5_passesAll_90 rfl rfl rfl rfl rfl rfl (Nat.le_of_ble_eq_true rfl) (Nat.le_of_ble_eq_true rfl) (Nat.le_of_ble_eq_true rfl) rfl
theorem eX5_passesAll_93 : ev X m_X5_passesAll 93 [vR r, a1, a2] st mem = ev X m_X5_passesAll 94 [vR r, a1, a2] (vR r :: st) mem := ke_aload_n rfl dX5_passesAll_93
theorem eX5_passesAll_94 : ev X m_X5_passesAll 94 [vR r, a1, a2] st mem = ev X m_X5_passesAll 95 [vR r, a1, a2] (vR r :: st) mem := ke_aload_n rfl dX5_passesAll_94
theorem eX5_passesAll_95 : ev X m_X5_passesAll 95 [vR r, a1, a2] st mem = ev X m_X5_passesAll 96 [vR r, a1, a2] (vR r :: st) mem := ke_aload_n rfl dX5_passesAll_95
theorem eX5_passesAll_96 : ev X m_X5_passesAll 96 [a0, a1, a2] (vR r :: st) mem = evb X (fget mem r 5 11) m_X5_passesAll 99 [a0, a1, a2] st mem := ke_getf rfl dX5_passesAll_96
theorem eX5_passesAll_99 : ev X m_X5_passesAll 99 [a0, a1, a2] (vI n0 :: vR r :: [s0]) mem = evc X (gR mem r 5 (ev X m_X5_passOne 0 [vR r, vI n0, vS] [] mem)) m_X5_passesAll 102 [a0, a1, a2] [s0] := ke_callV (m' := m_X5_passOne) (as := [vI n0]) (n := 1) (rest := [s0]) dX5_passesAll_99 rfl rfl rfl rfl rfl rfl (Nat.le_of_ble_eq_true rfl) (Nat.le_of_ble_eq_true rfl) (Nat.le_of_ble_eq_true rfl) rfl
theorem eX5_passesAll_102 : ev X m_X5_passesAll 102 [a0, a1, a2] (vI x :: vR r :: st) mem = evm X (fput mem r 5 11 (vI x)) m_X5_passesAll 105 [a0, a1, a2] st := ke_putf rfl (by decide +kernel) dX5_passesAll_102
theorem eX5_passesAll_105 : ev X m_X5_passesAll 105 [vR r, a1, a2] st mem = ev X m_X5_passesAll 106 [vR r, a1, a2] (vR r :: st) mem := ke_aload_n rfl dX5_passesAll_105
theorem eX5_passesAll_106 : ev X m_X5_passesAll 106 [vR r, a1, a2] st mem = ev X m_X5_passesAll 107 [vR r, a1, a2] (vR r :: st) mem := ke_aload_n rfl dX5_passesAll_106
theorem eX5_passesAll_107 : ev X m_X5_passesAll 107 [vR r, a1, a2] st mem = ev X m_X5_passesAll 108 [vR r, a1, a2] (vR r :: st) mem := ke_aload_n rfl dX5_passesAll_107
theorem eX5_passesAll_108 : ev X m_X5_passesAll 108 [a0, a1, a2] (vR r :: st) mem = evb X (fget mem r 5 12) m_X5_passesAll 111 [a0, a1, a2] st mem := ke_getf rfl dX5_passesAll_108
theorem eX5_passesAll_111 : ev X m_X5_passesAll 111 [a0, a1, a2] (vI n0 :: vR r :: [s0]) mem = evc X (gR mem r 5 (ev X m_X5_passOne 0 [vR r, vI n0, vS] [] mem)) m_X5_passesAll 114 [a0, a1, a2] [s0] := ke_callV (m' := m_X5_passOne) (as := [vI n0]) (n := 1) (rest := [s0]) dX5_passesAll_111 rfl rfl rfl rfl rfl rfl (Nat.le_of_ble_eq_true rfl) (Nat.le_of_ble_eq_true rfl) (Nat.le_of_ble_eq_true rfl) rfl
theorem eX5_passesAll_114 : ev X m_X5_passesAll 114 [a0, a1, a2] (vI x :: vR r :: st) mem = evm X (fput mem r 5 12 (vI x)) m_X5_passesAll 117 [a0, a1, a2] st := ke_putf rfl (by decide +kernel) dX5_passesAll_114
theorem eX5_passesAll_117 : ev X m_X5_passesAll 117 [vR r, a1, a2] st mem = ev X m_X5_passesAll 118 [vR r, a1, a2] (vR r :: st) mem := ke_aload_n rfl dX5_passesAll_117
theorem eX5_passesAll_118 : ev X m_X5_passesAll 118 [vR r, a1, a2] st mem = ev X m_X5_passesAll 119 [vR r, a1, a2] (vR r :: st) mem := ke_aload_n rfl dX5_passesAll_118
theorem eX5_passesAll_119 : ev X m_X5_passesAll 119 [vR r, a1, a2] st mem = ev X m_X5_passesAll 120 [vR r, a1, a2] (vR r :: st) mem := ke_aload_n rfl dX5_passesAll_119
theorem eX5_passesAll_120 : ev X m_X5_passesAll 120 [a0, a1, a2] (vR r :: st) mem = evb X (fget mem r 5 13) m_X5_passesAll 123 [a0, a1, a2] st mem := ke_getf rfl dX5_passesAll_120
theorem eX5_passesAll_123 : ev X m_X5_passesAll 123 [a0, a1, a2] (vI n0 :: vR r :: [s0]) mem = evc X (gR mem r 5 (ev X m_X5_passOne 0 [vR r, vI n0, vS] [] mem)) m_X5_passesAll 126 [a0, a1, a2] [s0] := ke_callV (m' := m_X5_passOne) (as := [vI n0]) (n := 1) (rest := [s0]) dX5_passesAll_123 rfl rfl rfl rfl rfl rfl (Nat.le_of_ble_eq_true rfl) (Nat.le_of_ble_eq_true rfl) (Nat.le_of_ble_eq_true rfl) rfl
theorem eX5_passesAll_126 : ev X m_X5_passesAll 126 [a0, a1, a2] (vI x :: vR r :: st) mem = evm X (fput mem r 5 13 (vI x)) m_X5_passesAll 129 [a0, a1, a2] st := ke_putf rfl (by decide +kernel) dX5_passesAll_126
theorem eX5_passesAll_129 : ev X m_X5_passesAll 129 [a0, a1, a2] [] mem = some (none, mem) := ke_return dX5_passesAll_129 rfl
theorem eX5_passes_0 : ev X m_X5_passes 0 [a0, a1, a2] st mem = ev X m_X5_passes 1 [a0, a1, a2] (vI 0 :: st) mem := ke_iconst (by decide) dX5_passes_0
theorem eX5_passes_1 : ev X m_X5_passes 1 [a0, a1, a2] (vI x :: st) mem = ev X m_X5_passes 2 [a0, a1, vI x] st mem := ke_istore_n (Nat.le_of_ble_eq_true rfl) rfl dX5_passes_1
theorem eX5_passes_2 : ev X m_X5_passes 2 [a0, a1, vI x] st mem = ev X m_X5_passes 3 [a0, a1, vI x] (vI x :: st) mem := ke_iload_n rfl dX5_passes_2
theorem eX5_passes_3 : ev X m_X5_passes 3 [a0, vR r, a2] st mem = ev X m_X5_passes 4 [a0, vR r, a2] (vR r :: st) mem := ke_aload_n rfl dX5_passes_3
theorem eX5_passes_4 : ev X m_X5_passes 4 [a0, a1, a2] (vR r :: st) mem = evb X (alen mem r) m_X5_passes 5 [a0, a1, a2] st mem := ke_alen dX5_passes_4
theorem eX5_passes_5 : ev X m_X5_passes 5 [a0, a1, a2] (vI y :: vI x :: st) mem = if x < y then ev X m_X5_passes 8 [a0, a1, a2] st mem else ev X m_X5_passes 58 [a0, a1, a2] st mem := ke_icmp_ge dX5_passes_5 rfl
theorem eX5_passes_8 : ev X m_X5_passes 8 [vR r, a1, a2] st mem = ev X m_X5_passes 9 [vR r, a1, a2] (vR r :: st) mem := ke_aload_n rfl dX5_passes_8
theorem eX5_passes_9 : ev X m_X5_passes 9 [a0, a1, a2] (vR r :: st) mem = evb X (fget mem r 5 23) m_X5_passes 12 [a0, a1, a2] st mem := ke_getf rfl dX5_passes_9
theorem eX5_passes_12 : ev X m_X5_passes 12 [a0, a1, a2] (vI x :: st) mem = if x = 0 then ev X m_X5_passes 30 [a0, a1, a2] st mem else ev X m_X5_passes 15 [a0, a1, a2] st mem := ke_if_eq dX5_passes_12 rfl
theorem eX5_passes_15 : ev X m_X5_passes 15 [vR r, a1, a2] st mem = ev X m_X5_passes 16 [vR r, a1, a2] (vR r :: st) mem := ke_aload_n rfl dX5_passes_15
theorem eX5_passes_16 : ev X m_X5_passes 16 [a0, a1, a2] (vR r :: st) mem = evb X (fget mem r 5 21) m_X5_passes 19 [a0, a1, a2] st mem := ke_getf rfl dX5_passes_16
theorem eX5_passes_19 : ev X m_X5_passes 19 [vR r, a1, a2] st mem = ev X m_X5_passes 20 [vR r, a1, a2] (vR r :: st) mem := ke_aload_n rfl dX5_passes_19
theorem eX5_passes_20 : ev X m_X5_passes 20 [a0, a1, a2] (vR r :: st) mem = evb X (fget mem r 5 24) m_X5_passes 23 [a0, a1, a2] st mem := ke_getf rfl dX5_passes_20
theorem eX5_passes_23 : ev X m_X5_passes 23 [a0, vR r, a2] st mem = ev X m_X5_passes 24 [a0, vR r, a2] (vR r :: st) mem := ke_aload_n rfl dX5_passes_23
theorem eX5_passes_24 : ev X m_X5_passes 24 [a0, a1, vI x] st mem = ev X m_X5_passes 25 [a0, a1, vI x] (vI x :: st) mem := ke_iload_n rfl dX5_passes_24
theorem eX5_passes_25 : ev X m_X5_passes 25 [a0, a1, a2] (vI x :: vR r :: st) mem = evb X (aget mem r x) m_X5_passes 26 [a0, a1, a2] st mem := ke_iaload dX5_passes_25
theorem eX5_passes_26 : ev X m_X5_passes 26 [a0, a1, a2] (vI y :: vI x :: vR r :: st) mem = evm X (aput mem r x y) m_X5_passes 27 [a0, a1, a2] st := ke_iastore dX5_passes_26
theorem eX5_passes_27 : ev X m_X5_passes 27 [a0, a1, a2] st mem = ev X m_X5_passes 42 [a0, a1, a2] st mem := ke_goto dX5_passes_27 rfl
theorem eX5_passes_30 : ev X m_X5_passes 30 [a0, vR r, a2] st mem = ev X m_X5_passes 31 [a0, vR r, a2] (vR r :: st) mem := ke_aload_n rfl dX5_passes_30
theorem eX5_passes_31 : ev X m_X5_passes 31 [a0, a1, vI x] st mem = ev X m_X5_passes 32 [a0, a1, vI x] (vI x :: st) mem := ke_iload_n rfl dX5_passes_31
theorem eX5_passes_32 : ev X m_X5_passes 32 [vR r, a1, a2] st mem = ev X m_X5_passes 33 [vR r, a1, a2] (vR r :: st) mem := ke_aload_n rfl dX5_passes_32
theorem eX5_passes_33 : ev X m_X5_passes 33 [a0, a1, a2] (vR r :: st) mem = evb X (fget mem r 5 21) m_X5_passes 36 [a0, a1, a2] st mem := ke_getf rfl dX5_passes_33
theorem eX5_passes_36 : ev X m_X5_passes 36 [vR r, a1, a2] st mem = ev X m_X5_passes 37 [vR r, a1, a2] (vR r :: st) mem := ke_aload_n rfl dX5_passes_36
theorem eX5_passes_37 : ev X m_X5_passes 37 [a0, a1, a2] (vR r :: st) mem = evb X (fget mem r 5 24) m_X5_passes 40 [a0, a1, a2] st mem := ke_getf rfl dX5_passes_37
end ELEM
