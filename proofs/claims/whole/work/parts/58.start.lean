/-! THE LAW, FROM ITS ENTRY -/
theorem iw_1_1 : Cond.initialized RX4 ∈ wT := wT_in1 (List.mem_of_getElem? (i := 1) rfl) (by decide)
theorem iw_1_6 : Cond.initialized RX5 ∈ wT := wT_in1 (List.mem_of_getElem? (i := 6) rfl) (by decide)
theorem iw_1_14 : Cond.classLink RL (7 : Nat) RX4 ∈ wT := wT_in1 (List.mem_of_getElem? (i := 14) rfl) (by decide)
theorem iw_1_15 : Cond.instantiable RX4 (7 : Nat) ∈ wT := wT_in1 (List.mem_of_getElem? (i := 15) rfl) (by decide)
theorem iw_1_16 : Cond.methodLink RL (9 : Nat) yX4_init ∈ wT := wT_in1 (List.mem_of_getElem? (i := 16) rfl) (by decide)
theorem iw_1_17 : Cond.instanceMethod yX4_init ∈ wT := wT_in1 (List.mem_of_getElem? (i := 17) rfl) (by decide)
theorem iw_4_13 : Cond.classLink RL (10 : Nat) RX5 ∈ wT := wT_in4 (List.mem_of_getElem? (i := 13) rfl) (by decide)
theorem iw_4_14 : Cond.instantiable RX5 (28 : Nat) ∈ wT := wT_in4 (List.mem_of_getElem? (i := 14) rfl) (by decide)
theorem iw_4_15 : Cond.methodLink RL (12 : Nat) yX5_init ∈ wT := wT_in4 (List.mem_of_getElem? (i := 15) rfl) (by decide)
theorem iw_4_16 : Cond.instanceMethod yX5_init ∈ wT := wT_in4 (List.mem_of_getElem? (i := 16) rfl) (by decide)
theorem st_ir {X : List Int} {mi : MI} {pc len : Nat} {al st : List AV} {mem : AM} {i : Instr} (hty : mRt mi = some .boolean) (h : stepJ X mi pc al st mem i len = some (.inr (.inr (some (vI 1))))) : i = .ireturn ∧ len = 1 ∧ st = [vI 1] := by
  by_cases hi : isCtl i = false
  · obtain ⟨_, hz⟩ := st_noctl hi h
    cases hz
  · cases i with
    | invokevirtual k =>
      obtain ⟨-, h⟩ := ck_inv h
      obtain ⟨_, -, h⟩ := bind_inv h
      obtain ⟨-, h⟩ := gI_inv h
      obtain ⟨-, -, -, v, rest, -, -, hq, -⟩ := callVA_inv h
      cases hq
    | invokestatic k =>
      replace h := (ck_inv h).2
      split at h
      · obtain ⟨-, h⟩ := gI_inv h
        obtain ⟨-, -, -, -, hq⟩ := callSA_inv h
        cases hq
      · split at h
        · obtain ⟨_, hz⟩ := copyA_inl h
          cases hz
        · obtain ⟨_, -, h⟩ := bind_inv h
          obtain ⟨_, hz⟩ := mathA_inl h
          cases hz
    | ireturn =>
      obtain ⟨rfl, h1⟩ := ck_inv h
      obtain ⟨x, st', rfl, h2⟩ := p1_inv h1
      obtain ⟨h3, h4⟩ := gI_inv h2
      simp only [Bool.and_eq_true, decide_eq_true_eq] at h3
      have h5 := List.length_eq_zero_iff.mp h3.1
      subst h5
      cases h4
      exact ⟨rfl, rfl, rfl⟩
    | lreturn =>
      obtain ⟨rfl, h1⟩ := ck_inv h
      obtain ⟨x, st', rfl, h2⟩ := pL_inv h1
      obtain ⟨h3, h4⟩ := gI_inv h2
      cases h4
    | areturn =>
      obtain ⟨rfl, h1⟩ := ck_inv h
      rcases pR_inv h1 with ⟨a, st', rfl, h2⟩ | ⟨a, st', rfl, h2⟩ <;>
      · obtain ⟨h3, h4⟩ := gI_inv h2
        cases h4
    | return_ =>
      obtain ⟨rfl, h1⟩ := ck_inv h
      obtain ⟨h3, h4⟩ := gI_inv h1
      cases h4
    | _ => exact absurd rfl hi
/-- from the loop's head, with the made objects in the heap, to the law's end -/
theorem law_run {p : Program} {l : Launch} {e : Env} {s : State} {m : MethodId} {below : List Frame} {meth : Method} {c : Code} {b L : Nat} {xs : Nat → Int32} {xa ad : Nat → Nat} {uv : Value} {cA : ClassId} {dC : Nat → ClassId} {dI : Nat → Nat → Nat} {H : Heap} {locs : List Loc} {ls : Array Slot} {q0 q53 : Nat} (hL : L ≤ 2560) (C0 : lw_At p s m meth c b L xs) (hxa : xa 0 = b) (hE : Ext xa uv ((List.range L).map (fun j => (xs j).toInt)) (fun q : Nat => s.heap.size ≤ q) s s.heap)
    (hts : ∀ w ∈ wT, w.before #[Value.ref b] s = true) (hK : va_K (dC, dI) vwCl [(cA, .int)] s) (hP : va_P (dC, dI) vwCl (cws ad xa uv cA mem0) H) (hD : va_D (fun q : Nat => s.heap.size ≤ q) (cws ad xa uv cA mem0)) (hS : va_S (fun q : Nat => s.heap.size ≤ q) s.heap H locs) (h0 : ad 0 = q0) (h53 : ad 53 = q53) (hl : lv_has ls 4 [(3, .int 0), (2, .ref q53), (1, .ref q0), (0, .ref b)]) : W p l e room_1 s m #[Value.ref b] below meth c H locs 72 1398 (lw_Z below #[Value.ref b] s) (F0 m 18 ls []) := by
  obtain ⟨hx, hb, hr, hml, hown, htl, hX, hbl, hlocks, hgv⟩ := id C0
  have hI : ∀ i j, i < 72 → j < 72 → ad i = ad j → i = j := fun i j hi hj he => hD.1 i j _ _ (cws_get hi) (cws_get hj) he
  have hAd : ∀ i, i < 72 → s.heap.size ≤ ad i := fun i hi => hD.2 i _ (cws_get hi)
  have hlen : ((List.range L).map (fun j => (xs j).toInt)).length = L := by simp
  obtain ⟨mem', hev⟩ := law_loop (X := (List.range L).map (fun j => (xs j).toInt)) (by omega) L 0 zD zD zD zD zG zM (by omega) (Nat.zero_le _) zRla
  obtain ⟨f, hf⟩ := ev_iff.1 (hev)
  have C1 : Cx p s m #[Value.ref b] c room_1 m_law ((List.range L).map (fun j => (xs j).toInt)) ad xa uv cA dC dI (fun q : Nat => s.heap.size ≤ q) 72 1398 :=
    ⟨hx, hb, hml, hown, hts, hK, hE, hAd, hI, Nat.le_of_ble_eq_true rfl, Nat.le_of_ble_eq_true rfl, Nat.le_of_ble_eq_true rfl, Nat.le_of_ble_eq_true rfl⟩
  have key := snd_run (l := l) hI f m_law 18 _ [] _ _ mem' hf p e room_1 s m #[Value.ref b] below meth c 72 1398 (lw_Z below #[Value.ref b] s) (fun q : Nat => s.heap.size ≤ q) C1 (fun pc' al' st' i len hd h => ?_)
  · refine key H locs ls hP hS ⟨lv_mono hl ?_, rfl⟩ ⟨fun v hv => ?_, fun v hv => (nomatch hv), mem0_ok⟩
    · intro q hq
      have e1 : lcl ad xa uv [vX 0, vR 0, vR 53, vI ((0 : Nat) : Int)] = [(0, .ref (xa 0)), (1, .ref (ad 0)), (2, .ref (ad 53)), (3, .int 0)] := rfl
      rw [e1, hxa, h0, h53] at hq
      simp only [List.mem_cons, List.not_mem_nil, or_false] at hq ⊢
      rcases hq with h | h | h | h
      · exact Or.inr (Or.inr (Or.inr h))
      · exact Or.inr (Or.inr (Or.inl h))
      · exact Or.inr (Or.inl h)
      · exact Or.inl h
    · simp only [List.mem_cons, List.not_mem_nil, or_false] at hv
      rcases hv with rfl | rfl | rfl | rfl
      · trivial
      · trivial
      · trivial
      · rfl
  · obtain ⟨rfl, rfl, rfl⟩ := st_ir rfl h
    intro H1 locs1 ls1 hP1 hS1 hl1 hO1
    refine va_forget hS1.2.2 ?_
    exact lw_ret hx hb hr hlocks hd
set_option maxHeartbeats 4000000 in
set_option maxRecDepth 100000 in
/-- YOUR PART: from the entry, for every script of at most 2560 ints, the law comes to its end with true ('hflags': the launch's flags, for a law that throws: no stack traces) -/
theorem whole_start {p : Program} {e : Env} {s : State} {m : MethodId} {below : List Frame} {meth : Method} {c : Code} (l : Launch) (hflags : l.flags = flags0) {b L : Nat} {xs : Nat → Int32} (hL : L ≤ 2560) (C0 : lw_At p s m meth c b L xs) : W p l e room_1 s m #[Value.ref b] below meth c s.heap [] 0 0 (lw_Z below #[Value.ref b] s) (entryFrame m ([Value.ref b] : List Value).toArray 4) := by
  obtain ⟨xa, uv, hxa, hE⟩ := ext_start hL C0
  obtain ⟨hx, hb, hr, hml, hown, htl, hX, hbl, hlocks, hgv⟩ := id C0
  have hown : s.vm.findClass RL = some m.cls := hown
  have hts : ∀ w ∈ wT, w.before #[Value.ref b] s = true := fun w hw => htl w (wT_lw hw)
  have hN : ∀ w ∈ wN, va_Nw w s := wN_of htl
  have hA : ∀ q : Nat, s.heap.size ≤ q → (fun q : Nat => s.heap.size ≤ q) q := fun _ h => h
  obtain ⟨d0, i0, hKn0⟩ := u_known (C := RX0) (T := TX0) (N := 13) (n := 13) hts iT_X0 (hts _ iw_1_23)
  obtain ⟨d1, i1, hKn1⟩ := u_known (C := RX1) (T := TX1) (N := 2) (n := 2) hts iT_X1 (hts _ iw_1_117)
  obtain ⟨d2, i2, hKn2⟩ := u_known (C := RX2) (T := TX2) (N := 2) (n := 2) hts iT_X2 (hts _ iw_1_103)
  obtain ⟨d3, i3, hKn3⟩ := u_known (C := RX3) (T := TX3) (N := 4) (n := 4) hts iT_X3 (hts _ iw_1_82)
  obtain ⟨d4, i4, hKn4⟩ := u_known (C := RX4) (T := TX4) (N := 7) (n := 7) hts iT_X4 (hts _ iw_1_15)
  obtain ⟨d5, i5, hKn5⟩ := u_known (C := RX5) (T := TX5) (N := 28) (n := 28) hts iT_X5 (hts _ iw_4_14)
  obtain ⟨dC, dI, hKc⟩ : ∃ (dC : Nat → ClassId) (dI : Nat → Nat → Nat), ∀ (k : Nat) (q : vw_C), vwCl[k]? = some q → u_Kn s q.1 q.2.1 q.2.2 (dC k) (dI k) := by
    refine ⟨fun k => match k with | 0 => d0 | 1 => d1 | 2 => d2 | 3 => d3 | 4 => d4 | _ => d5, fun k => match k with | 0 => i0 | 1 => i1 | 2 => i2 | 3 => i3 | 4 => i4 | _ => i5, ?_⟩
    intro k q hq
    match k, hq with
    | 0, hq => cases hq; exact hKn0
    | 1, hq => cases hq; exact hKn1
    | 2, hq => cases hq; exact hKn2
    | 3, hq => cases hq; exact hKn3
    | 4, hq => cases hq; exact hKn4
    | 5, hq => cases hq; exact hKn5
    | k + 6, hq => simp [vwCl] at hq
  have hS : va_S (fun q : Nat => s.heap.size ≤ q) s.heap s.heap [] := va_S.rf
  have hK : va_K (dC, dI) vwCl [] s := ⟨hKc, fun k q h => by simp at h⟩
  have hP : va_P (dC, dI) vwCl [] s.heap := fun k q h => by simp at h
  have hD : va_D (fun q : Nat => s.heap.size ≤ q) [] := ⟨fun i j p q h => by simp at h, fun k q h => by simp at h⟩
  have hl := lv_entry ([.ref b]) (n := 4) (Nat.le_of_ble_eq_true rfl)
  rw [lg_entry_eq]
  generalize (lg_sl ([.ref b]) ++ List.replicate (4 - (lg_sl ([.ref b])).length) Slot.unset).toArray = ls at hl ⊢
  have hl : lv_has ls 4 [(0, .ref b)] := hl
  refine va_new (ci := 4) (fs := [.null, .null, .int 0, .null, .null, .null, .null]) (C := RX4) (T := TX4) (N := 7) hx hb hts iT_X4 tyX4 tyX4_ok hown (hts _ iw_1_14) (hts _ iw_1_15) (hts _ iw_1_1) hK hP hD hS hA rfl (fun j hj => by rcases (show j = 0 ∨ j = 1 ∨ j = 2 ∨ j = 3 ∨ j = 4 ∨ j = 5 ∨ j = 6 by omega) with rfl | rfl | rfl | rfl | rfl | rfl | rfl <;> rfl) (Nat.le_of_ble_eq_true rfl) (Nat.le_of_ble_eq_true rfl) dL_law_0 (fun q0 H hP hD hS => ?_)
  have hP : va_P (dC, dI) vwCl [(q0, .inr (4, [.null, .null, .int 0, .null, .null, .null, .null]))] H := hP
  have hD : va_D (fun q : Nat => s.heap.size ≤ q) [(q0, .inr (4, [.null, .null, .int 0, .null, .null, .null, .null]))] := hD
  refine W.widen (k := 1) (n := 7) (by omega) (by omega) ?_
  refine lv_dup hx hb dL_law_3 rfl ?_
  have hPc := hP.sub (ws' := [(q0, .inr (4, [.null, .null, .int 0, .null, .null, .null, .null]))]) [0] rfl
  have hDc := hD.sub (ws' := [(q0, .inr (4, [.null, .null, .int 0, .null, .null, .null, .null]))]) [0] (by decide) rfl
  have hKc := hK.sub (tys' := []) [] rfl
  have hFc := va_free (wc := [(q0, .inr (4, [.null, .null, .int 0, .null, .null, .null, .null]))]) hD hS hA [0] rfl
  refine va_callv (va_runI (As := []) (rest := [.ref q0]) ⟨hx, hb, hml, hown, hts⟩ (c_X4_init l dC dI q0 H.size) (cwI 0 hts gI4 rfl rfl rfl (hts _ iw_1_1) (hts _ iw_1_16) (hts _ iw_1_17) rfl ⟨by decide +kernel, by decide +kernel, by decide +kernel⟩ ⟨Nat.le_of_ble_eq_true rfl, Nat.le_of_ble_eq_true rfl⟩) ⟨fun a U g mk q => by obtain ⟨q0, q1, qP, qK, qD, qN⟩ := q; exact ⟨q0, q1, qP, va_K.moved (u := U) (U := U.calling g mk a) (Vm.Alike.refl U.vm) qK, qD, wN_same (u := U) (U := U.calling g mk a) rfl qN⟩, fun U hU hW => ⟨rfl, by rw [hU], by rw [hU]; exact hPc, va_K.moved hW.alike hKc, hDc.weaken (fun _ _ _ _ => trivial), wN_warm hW hN⟩⟩ rfl rfl hl.1 rfl (lv_room (Nat.le_of_ble_eq_true rfl)) dL_law_4 ⟨Nat.le_of_ble_eq_true rfl, Nat.le_of_ble_eq_true rfl⟩) hS (fun q _ h => hFc q h) hFc (fun u t H1 locs4 ht hvm h5 hB hz1 hk1 hS => ?_)
  obtain ⟨q1, q2, q3, q4, q5, q6, q7, q8, q9, q10, q11, q12, q13, q14, q15, q16, q17, q18, q19, q20, q21, q22, q23, q24, q25, q26, q27, q28, q29, q30, q31, q32, q33, q34, q35, q36, q37, q38, q39, q40, q41, q42, q43, q44, q45, q46, q47, q48, q49, q50, q51, q52, c4, hP1, hK1, hD1⟩ := hB
  rw [ht] at hP1
  have hK1 := va_K.moved hvm.symm hK1
  obtain ⟨hP, hD⟩ := va_join (wr := []) (w1 := [(q0, .inr (4, [.ref q1, .ref q12, .int 0, .ref q23, .ref q48, .ref q50, .ref q52])), (q1, .inr (0, [.int 0, .int 0, .int 0, .ref q2, .ref q3, .ref q4, .ref q5, .ref q6, .ref q7, .ref q8, .ref q9, .ref q10, .ref q11])), (q2, .inl (c4, zA 6)), (q3, .inl (c4, zA 6)), (q4, .inl (c4, zA 6)), (q5, .inl (c4, zA 6)), (q6, .inl (c4, zA 36)), (q7, .inl (c4, zA 8)), (q8, .inl (c4, zA 8)), (q9, .inl (c4, zA 8)), (q10, .inl (c4, zA 8)), (q11, .inl (c4, zA 8)), (q12, .inr (0, [.int 0, .int 0, .int 0, .ref q13, .ref q14, .ref q15, .ref q16, .ref q17, .ref q18, .ref q19, .ref q20, .ref q21, .ref q22])), (q13, .inl (c4, zA 6)), (q14, .inl (c4, zA 6)), (q15, .inl (c4, zA 6)), (q16, .inl (c4, zA 6)), (q17, .inl (c4, zA 36)), (q18, .inl (c4, zA 8)), (q19, .inl (c4, zA 8)), (q20, .inl (c4, zA 8)), (q21, .inl (c4, zA 8)), (q22, .inl (c4, zA 8)), (q23, .inr (3, [.ref q24, .ref q35, .ref q46, .ref q47])), (q24, .inr (0, [.int 0, .int 0, .int 0, .ref q25, .ref q26, .ref q27, .ref q28, .ref q29, .ref q30, .ref q31, .ref q32, .ref q33, .ref q34])), (q25, .inl (c4, zA 6)), (q26, .inl (c4, zA 6)), (q27, .inl (c4, zA 6)), (q28, .inl (c4, zA 6)), (q29, .inl (c4, zA 36)), (q30, .inl (c4, zA 8)), (q31, .inl (c4, zA 8)), (q32, .inl (c4, zA 8)), (q33, .inl (c4, zA 8)), (q34, .inl (c4, zA 8)), (q35, .inr (0, [.int 0, .int 0, .int 0, .ref q36, .ref q37, .ref q38, .ref q39, .ref q40, .ref q41, .ref q42, .ref q43, .ref q44, .ref q45])), (q36, .inl (c4, zA 6)), (q37, .inl (c4, zA 6)), (q38, .inl (c4, zA 6)), (q39, .inl (c4, zA 6)), (q40, .inl (c4, zA 36)), (q41, .inl (c4, zA 8)), (q42, .inl (c4, zA 8)), (q43, .inl (c4, zA 8)), (q44, .inl (c4, zA 8)), (q45, .inl (c4, zA 8)), (q46, .inl (c4, zA 4)), (q47, .inl (c4, zA 4)), (q48, .inr (2, [.int 0, .ref q49])), (q49, .inl (c4, zA 96)), (q50, .inr (1, [.int 0, .ref q51])), (q51, .inl (c4, zA 16)), (q52, .inl (c4, zA 7))]) hP hD [0] [] rfl rfl (by decide) (by decide) hk1 hFc hP1 hD1
  have hK := (hK.sub (tys' := []) [] rfl).app hK1
  generalize H1 = H at hP hS ⊢
  have hP : va_P (dC, dI) vwCl [(q0, .inr (4, [.ref q1, .ref q12, .int 0, .ref q23, .ref q48, .ref q50, .ref q52])), (q1, .inr (0, [.int 0, .int 0, .int 0, .ref q2, .ref q3, .ref q4, .ref q5, .ref q6, .ref q7, .ref q8, .ref q9, .ref q10, .ref q11])), (q2, .inl (c4, zA 6)), (q3, .inl (c4, zA 6)), (q4, .inl (c4, zA 6)), (q5, .inl (c4, zA 6)), (q6, .inl (c4, zA 36)), (q7, .inl (c4, zA 8)), (q8, .inl (c4, zA 8)), (q9, .inl (c4, zA 8)), (q10, .inl (c4, zA 8)), (q11, .inl (c4, zA 8)), (q12, .inr (0, [.int 0, .int 0, .int 0, .ref q13, .ref q14, .ref q15, .ref q16, .ref q17, .ref q18, .ref q19, .ref q20, .ref q21, .ref q22])), (q13, .inl (c4, zA 6)), (q14, .inl (c4, zA 6)), (q15, .inl (c4, zA 6)), (q16, .inl (c4, zA 6)), (q17, .inl (c4, zA 36)), (q18, .inl (c4, zA 8)), (q19, .inl (c4, zA 8)), (q20, .inl (c4, zA 8)), (q21, .inl (c4, zA 8)), (q22, .inl (c4, zA 8)), (q23, .inr (3, [.ref q24, .ref q35, .ref q46, .ref q47])), (q24, .inr (0, [.int 0, .int 0, .int 0, .ref q25, .ref q26, .ref q27, .ref q28, .ref q29, .ref q30, .ref q31, .ref q32, .ref q33, .ref q34])), (q25, .inl (c4, zA 6)), (q26, .inl (c4, zA 6)), (q27, .inl (c4, zA 6)), (q28, .inl (c4, zA 6)), (q29, .inl (c4, zA 36)), (q30, .inl (c4, zA 8)), (q31, .inl (c4, zA 8)), (q32, .inl (c4, zA 8)), (q33, .inl (c4, zA 8)), (q34, .inl (c4, zA 8)), (q35, .inr (0, [.int 0, .int 0, .int 0, .ref q36, .ref q37, .ref q38, .ref q39, .ref q40, .ref q41, .ref q42, .ref q43, .ref q44, .ref q45])), (q36, .inl (c4, zA 6)), (q37, .inl (c4, zA 6)), (q38, .inl (c4, zA 6)), (q39, .inl (c4, zA 6)), (q40, .inl (c4, zA 36)), (q41, .inl (c4, zA 8)), (q42, .inl (c4, zA 8)), (q43, .inl (c4, zA 8)), (q44, .inl (c4, zA 8)), (q45, .inl (c4, zA 8)), (q46, .inl (c4, zA 4)), (q47, .inl (c4, zA 4)), (q48, .inr (2, [.int 0, .ref q49])), (q49, .inl (c4, zA 96)), (q50, .inr (1, [.int 0, .ref q51])), (q51, .inl (c4, zA 16)), (q52, .inl (c4, zA 7))] H := hP
  have hD : va_D (fun q : Nat => s.heap.size ≤ q) [(q0, .inr (4, [.ref q1, .ref q12, .int 0, .ref q23, .ref q48, .ref q50, .ref q52])), (q1, .inr (0, [.int 0, .int 0, .int 0, .ref q2, .ref q3, .ref q4, .ref q5, .ref q6, .ref q7, .ref q8, .ref q9, .ref q10, .ref q11])), (q2, .inl (c4, zA 6)), (q3, .inl (c4, zA 6)), (q4, .inl (c4, zA 6)), (q5, .inl (c4, zA 6)), (q6, .inl (c4, zA 36)), (q7, .inl (c4, zA 8)), (q8, .inl (c4, zA 8)), (q9, .inl (c4, zA 8)), (q10, .inl (c4, zA 8)), (q11, .inl (c4, zA 8)), (q12, .inr (0, [.int 0, .int 0, .int 0, .ref q13, .ref q14, .ref q15, .ref q16, .ref q17, .ref q18, .ref q19, .ref q20, .ref q21, .ref q22])), (q13, .inl (c4, zA 6)), (q14, .inl (c4, zA 6)), (q15, .inl (c4, zA 6)), (q16, .inl (c4, zA 6)), (q17, .inl (c4, zA 36)), (q18, .inl (c4, zA 8)), (q19, .inl (c4, zA 8)), (q20, .inl (c4, zA 8)), (q21, .inl (c4, zA 8)), (q22, .inl (c4, zA 8)), (q23, .inr (3, [.ref q24, .ref q35, .ref q46, .ref q47])), (q24, .inr (0, [.int 0, .int 0, .int 0, .ref q25, .ref q26, .ref q27, .ref q28, .ref q29, .ref q30, .ref q31, .ref q32, .ref q33, .ref q34])), (q25, .inl (c4, zA 6)), (q26, .inl (c4, zA 6)), (q27, .inl (c4, zA 6)), (q28, .inl (c4, zA 6)), (q29, .inl (c4, zA 36)), (q30, .inl (c4, zA 8)), (q31, .inl (c4, zA 8)), (q32, .inl (c4, zA 8)), (q33, .inl (c4, zA 8)), (q34, .inl (c4, zA 8)), (q35, .inr (0, [.int 0, .int 0, .int 0, .ref q36, .ref q37, .ref q38, .ref q39, .ref q40, .ref q41, .ref q42, .ref q43, .ref q44, .ref q45])), (q36, .inl (c4, zA 6)), (q37, .inl (c4, zA 6)), (q38, .inl (c4, zA 6)), (q39, .inl (c4, zA 6)), (q40, .inl (c4, zA 36)), (q41, .inl (c4, zA 8)), (q42, .inl (c4, zA 8)), (q43, .inl (c4, zA 8)), (q44, .inl (c4, zA 8)), (q45, .inl (c4, zA 8)), (q46, .inl (c4, zA 4)), (q47, .inl (c4, zA 4)), (q48, .inr (2, [.int 0, .ref q49])), (q49, .inl (c4, zA 96)), (q50, .inr (1, [.int 0, .ref q51])), (q51, .inl (c4, zA 16)), (q52, .inl (c4, zA 7))] := hD
  have hK : va_K (dC, dI) vwCl [(c4, .int)] s := hK
  refine W.widen (k := 53) (n := 594) (by omega) (by omega) ?_
  refine lv_astore_n (lv' := [(1, .ref q0), (0, .ref b)]) hx hb dL_law_7 rfl hl (by decide) rfl (fun ls hl => ?_)
  refine va_new (ci := 5) (fs := [.null, .null, .null, .null, .null, .null, .null, .null, .null, .null, .null, .int 0, .int 0, .int 0, .null, .null, .null, .null, .int 0, .int 0, .int 0, .null, .int 0, .int 0, .int 0, .null, .null, .int 0]) (C := RX5) (T := TX5) (N := 28) hx hb hts iT_X5 tyX5 tyX5_ok hown (hts _ iw_4_13) (hts _ iw_4_14) (hts _ iw_1_6) hK hP hD hS hA rfl (fun j hj => by rcases (show j = 0 ∨ j = 1 ∨ j = 2 ∨ j = 3 ∨ j = 4 ∨ j = 5 ∨ j = 6 ∨ j = 7 ∨ j = 8 ∨ j = 9 ∨ j = 10 ∨ j = 11 ∨ j = 12 ∨ j = 13 ∨ j = 14 ∨ j = 15 ∨ j = 16 ∨ j = 17 ∨ j = 18 ∨ j = 19 ∨ j = 20 ∨ j = 21 ∨ j = 22 ∨ j = 23 ∨ j = 24 ∨ j = 25 ∨ j = 26 ∨ j = 27 by omega) with rfl | rfl | rfl | rfl | rfl | rfl | rfl | rfl | rfl | rfl | rfl | rfl | rfl | rfl | rfl | rfl | rfl | rfl | rfl | rfl | rfl | rfl | rfl | rfl | rfl | rfl | rfl | rfl <;> rfl) (Nat.le_of_ble_eq_true rfl) (Nat.le_of_ble_eq_true rfl) dL_law_8 (fun q53 H hP hD hS => ?_)
  have hP : va_P (dC, dI) vwCl [(q0, .inr (4, [.ref q1, .ref q12, .int 0, .ref q23, .ref q48, .ref q50, .ref q52])), (q1, .inr (0, [.int 0, .int 0, .int 0, .ref q2, .ref q3, .ref q4, .ref q5, .ref q6, .ref q7, .ref q8, .ref q9, .ref q10, .ref q11])), (q2, .inl (c4, zA 6)), (q3, .inl (c4, zA 6)), (q4, .inl (c4, zA 6)), (q5, .inl (c4, zA 6)), (q6, .inl (c4, zA 36)), (q7, .inl (c4, zA 8)), (q8, .inl (c4, zA 8)), (q9, .inl (c4, zA 8)), (q10, .inl (c4, zA 8)), (q11, .inl (c4, zA 8)), (q12, .inr (0, [.int 0, .int 0, .int 0, .ref q13, .ref q14, .ref q15, .ref q16, .ref q17, .ref q18, .ref q19, .ref q20, .ref q21, .ref q22])), (q13, .inl (c4, zA 6)), (q14, .inl (c4, zA 6)), (q15, .inl (c4, zA 6)), (q16, .inl (c4, zA 6)), (q17, .inl (c4, zA 36)), (q18, .inl (c4, zA 8)), (q19, .inl (c4, zA 8)), (q20, .inl (c4, zA 8)), (q21, .inl (c4, zA 8)), (q22, .inl (c4, zA 8)), (q23, .inr (3, [.ref q24, .ref q35, .ref q46, .ref q47])), (q24, .inr (0, [.int 0, .int 0, .int 0, .ref q25, .ref q26, .ref q27, .ref q28, .ref q29, .ref q30, .ref q31, .ref q32, .ref q33, .ref q34])), (q25, .inl (c4, zA 6)), (q26, .inl (c4, zA 6)), (q27, .inl (c4, zA 6)), (q28, .inl (c4, zA 6)), (q29, .inl (c4, zA 36)), (q30, .inl (c4, zA 8)), (q31, .inl (c4, zA 8)), (q32, .inl (c4, zA 8)), (q33, .inl (c4, zA 8)), (q34, .inl (c4, zA 8)), (q35, .inr (0, [.int 0, .int 0, .int 0, .ref q36, .ref q37, .ref q38, .ref q39, .ref q40, .ref q41, .ref q42, .ref q43, .ref q44, .ref q45])), (q36, .inl (c4, zA 6)), (q37, .inl (c4, zA 6)), (q38, .inl (c4, zA 6)), (q39, .inl (c4, zA 6)), (q40, .inl (c4, zA 36)), (q41, .inl (c4, zA 8)), (q42, .inl (c4, zA 8)), (q43, .inl (c4, zA 8)), (q44, .inl (c4, zA 8)), (q45, .inl (c4, zA 8)), (q46, .inl (c4, zA 4)), (q47, .inl (c4, zA 4)), (q48, .inr (2, [.int 0, .ref q49])), (q49, .inl (c4, zA 96)), (q50, .inr (1, [.int 0, .ref q51])), (q51, .inl (c4, zA 16)), (q52, .inl (c4, zA 7)), (q53, .inr (5, [.null, .null, .null, .null, .null, .null, .null, .null, .null, .null, .null, .int 0, .int 0, .int 0, .null, .null, .null, .null, .int 0, .int 0, .int 0, .null, .int 0, .int 0, .int 0, .null, .null, .int 0]))] H := hP
  have hD : va_D (fun q : Nat => s.heap.size ≤ q) [(q0, .inr (4, [.ref q1, .ref q12, .int 0, .ref q23, .ref q48, .ref q50, .ref q52])), (q1, .inr (0, [.int 0, .int 0, .int 0, .ref q2, .ref q3, .ref q4, .ref q5, .ref q6, .ref q7, .ref q8, .ref q9, .ref q10, .ref q11])), (q2, .inl (c4, zA 6)), (q3, .inl (c4, zA 6)), (q4, .inl (c4, zA 6)), (q5, .inl (c4, zA 6)), (q6, .inl (c4, zA 36)), (q7, .inl (c4, zA 8)), (q8, .inl (c4, zA 8)), (q9, .inl (c4, zA 8)), (q10, .inl (c4, zA 8)), (q11, .inl (c4, zA 8)), (q12, .inr (0, [.int 0, .int 0, .int 0, .ref q13, .ref q14, .ref q15, .ref q16, .ref q17, .ref q18, .ref q19, .ref q20, .ref q21, .ref q22])), (q13, .inl (c4, zA 6)), (q14, .inl (c4, zA 6)), (q15, .inl (c4, zA 6)), (q16, .inl (c4, zA 6)), (q17, .inl (c4, zA 36)), (q18, .inl (c4, zA 8)), (q19, .inl (c4, zA 8)), (q20, .inl (c4, zA 8)), (q21, .inl (c4, zA 8)), (q22, .inl (c4, zA 8)), (q23, .inr (3, [.ref q24, .ref q35, .ref q46, .ref q47])), (q24, .inr (0, [.int 0, .int 0, .int 0, .ref q25, .ref q26, .ref q27, .ref q28, .ref q29, .ref q30, .ref q31, .ref q32, .ref q33, .ref q34])), (q25, .inl (c4, zA 6)), (q26, .inl (c4, zA 6)), (q27, .inl (c4, zA 6)), (q28, .inl (c4, zA 6)), (q29, .inl (c4, zA 36)), (q30, .inl (c4, zA 8)), (q31, .inl (c4, zA 8)), (q32, .inl (c4, zA 8)), (q33, .inl (c4, zA 8)), (q34, .inl (c4, zA 8)), (q35, .inr (0, [.int 0, .int 0, .int 0, .ref q36, .ref q37, .ref q38, .ref q39, .ref q40, .ref q41, .ref q42, .ref q43, .ref q44, .ref q45])), (q36, .inl (c4, zA 6)), (q37, .inl (c4, zA 6)), (q38, .inl (c4, zA 6)), (q39, .inl (c4, zA 6)), (q40, .inl (c4, zA 36)), (q41, .inl (c4, zA 8)), (q42, .inl (c4, zA 8)), (q43, .inl (c4, zA 8)), (q44, .inl (c4, zA 8)), (q45, .inl (c4, zA 8)), (q46, .inl (c4, zA 4)), (q47, .inl (c4, zA 4)), (q48, .inr (2, [.int 0, .ref q49])), (q49, .inl (c4, zA 96)), (q50, .inr (1, [.int 0, .ref q51])), (q51, .inl (c4, zA 16)), (q52, .inl (c4, zA 7)), (q53, .inr (5, [.null, .null, .null, .null, .null, .null, .null, .null, .null, .null, .null, .int 0, .int 0, .int 0, .null, .null, .null, .null, .int 0, .int 0, .int 0, .null, .int 0, .int 0, .int 0, .null, .null, .int 0]))] := hD
  refine W.widen (k := 54) (n := 622) (by omega) (by omega) ?_
  refine lv_dup hx hb dL_law_11 rfl ?_
  have hPc := hP.sub (ws' := [(q53, .inr (5, [.null, .null, .null, .null, .null, .null, .null, .null, .null, .null, .null, .int 0, .int 0, .int 0, .null, .null, .null, .null, .int 0, .int 0, .int 0, .null, .int 0, .int 0, .int 0, .null, .null, .int 0]))]) [53] rfl
  have hDc := hD.sub (ws' := [(q53, .inr (5, [.null, .null, .null, .null, .null, .null, .null, .null, .null, .null, .null, .int 0, .int 0, .int 0, .null, .null, .null, .null, .int 0, .int 0, .int 0, .null, .int 0, .int 0, .int 0, .null, .null, .int 0]))]) [53] (by decide) rfl
  have hKc := hK.sub (tys' := []) [] rfl
  have hFc := va_free (wc := [(q53, .inr (5, [.null, .null, .null, .null, .null, .null, .null, .null, .null, .null, .null, .int 0, .int 0, .int 0, .null, .null, .null, .null, .int 0, .int 0, .int 0, .null, .int 0, .int 0, .int 0, .null, .null, .int 0]))]) hD hS hA [53] rfl
  refine va_callv (va_runI (As := []) (rest := [.ref q53]) ⟨hx, hb, hml, hown, hts⟩ (c_X5_init l dC dI q53 H.size) (cwI 0 hts gI5 rfl rfl rfl (hts _ iw_1_6) (hts _ iw_4_15) (hts _ iw_4_16) rfl ⟨by decide +kernel, by decide +kernel, by decide +kernel⟩ ⟨Nat.le_of_ble_eq_true rfl, Nat.le_of_ble_eq_true rfl⟩) ⟨fun a U g mk q => by obtain ⟨q0, q1, qP, qK, qD⟩ := q; exact ⟨q0, q1, qP, va_K.moved (u := U) (U := U.calling g mk a) (Vm.Alike.refl U.vm) qK, qD⟩, fun U hU hW => ⟨rfl, by rw [hU], by rw [hU]; exact hPc, va_K.moved hW.alike hKc, hDc.weaken (fun _ _ _ _ => trivial)⟩⟩ rfl rfl hl.1 rfl (lv_room (Nat.le_of_ble_eq_true rfl)) dL_law_12 ⟨Nat.le_of_ble_eq_true rfl, Nat.le_of_ble_eq_true rfl⟩) hS (fun q _ h => hFc q h) hFc (fun u t H1 locs5 ht hvm h5 hB hz1 hk1 hS => ?_)
  obtain ⟨q54, q55, q56, q57, q58, q59, q60, q61, q62, q63, q64, q65, q66, q67, q68, q69, q70, q71, c5, hP1, hK1, hD1⟩ := hB
  rw [ht] at hP1
  have hK1 := va_K.moved hvm.symm hK1
  obtain ⟨hP, hD⟩ := va_join (wr := [(q0, .inr (4, [.ref q1, .ref q12, .int 0, .ref q23, .ref q48, .ref q50, .ref q52])), (q1, .inr (0, [.int 0, .int 0, .int 0, .ref q2, .ref q3, .ref q4, .ref q5, .ref q6, .ref q7, .ref q8, .ref q9, .ref q10, .ref q11])), (q2, .inl (c4, zA 6)), (q3, .inl (c4, zA 6)), (q4, .inl (c4, zA 6)), (q5, .inl (c4, zA 6)), (q6, .inl (c4, zA 36)), (q7, .inl (c4, zA 8)), (q8, .inl (c4, zA 8)), (q9, .inl (c4, zA 8)), (q10, .inl (c4, zA 8)), (q11, .inl (c4, zA 8)), (q12, .inr (0, [.int 0, .int 0, .int 0, .ref q13, .ref q14, .ref q15, .ref q16, .ref q17, .ref q18, .ref q19, .ref q20, .ref q21, .ref q22])), (q13, .inl (c4, zA 6)), (q14, .inl (c4, zA 6)), (q15, .inl (c4, zA 6)), (q16, .inl (c4, zA 6)), (q17, .inl (c4, zA 36)), (q18, .inl (c4, zA 8)), (q19, .inl (c4, zA 8)), (q20, .inl (c4, zA 8)), (q21, .inl (c4, zA 8)), (q22, .inl (c4, zA 8)), (q23, .inr (3, [.ref q24, .ref q35, .ref q46, .ref q47])), (q24, .inr (0, [.int 0, .int 0, .int 0, .ref q25, .ref q26, .ref q27, .ref q28, .ref q29, .ref q30, .ref q31, .ref q32, .ref q33, .ref q34])), (q25, .inl (c4, zA 6)), (q26, .inl (c4, zA 6)), (q27, .inl (c4, zA 6)), (q28, .inl (c4, zA 6)), (q29, .inl (c4, zA 36)), (q30, .inl (c4, zA 8)), (q31, .inl (c4, zA 8)), (q32, .inl (c4, zA 8)), (q33, .inl (c4, zA 8)), (q34, .inl (c4, zA 8)), (q35, .inr (0, [.int 0, .int 0, .int 0, .ref q36, .ref q37, .ref q38, .ref q39, .ref q40, .ref q41, .ref q42, .ref q43, .ref q44, .ref q45])), (q36, .inl (c4, zA 6)), (q37, .inl (c4, zA 6)), (q38, .inl (c4, zA 6)), (q39, .inl (c4, zA 6)), (q40, .inl (c4, zA 36)), (q41, .inl (c4, zA 8)), (q42, .inl (c4, zA 8)), (q43, .inl (c4, zA 8)), (q44, .inl (c4, zA 8)), (q45, .inl (c4, zA 8)), (q46, .inl (c4, zA 4)), (q47, .inl (c4, zA 4)), (q48, .inr (2, [.int 0, .ref q49])), (q49, .inl (c4, zA 96)), (q50, .inr (1, [.int 0, .ref q51])), (q51, .inl (c4, zA 16)), (q52, .inl (c4, zA 7))]) (w1 := [(q53, .inr (5, [.ref q54, .ref q55, .ref q56, .ref q57, .ref q58, .ref q59, .ref q60, .ref q61, .ref q62, .ref q63, .ref q64, .int 0, .int 0, .int 0, .ref q65, .ref q66, .ref q67, .ref q68, .int 0, .int 0, .int 0, .ref q69, .int 0, .int 0, .int 0, .ref q70, .ref q71, .int 0])), (q54, .inl (c5, zA 7)), (q55, .inl (c5, zA 6)), (q56, .inl (c5, zA 6)), (q57, .inl (c5, zA 6)), (q58, .inl (c5, zA 6)), (q59, .inl (c5, zA 36)), (q60, .inl (c5, zA 8)), (q61, .inl (c5, zA 8)), (q62, .inl (c5, zA 8)), (q63, .inl (c5, zA 8)), (q64, .inl (c5, zA 8)), (q65, .inl (c5, zA 96)), (q66, .inl (c5, zA 48)), (q67, .inl (c5, zA 48)), (q68, .inl (c5, zA 144)), (q69, .inl (c5, zA 309)), (q70, .inl (c5, zA 8)), (q71, .inl (c5, zA 16))]) hP hD [53] [0, 1, 2, 3, 4, 5, 6, 7, 8, 9, 10, 11, 12, 13, 14, 15, 16, 17, 18, 19, 20, 21, 22, 23, 24, 25, 26, 27, 28, 29, 30, 31, 32, 33, 34, 35, 36, 37, 38, 39, 40, 41, 42, 43, 44, 45, 46, 47, 48, 49, 50, 51, 52] rfl rfl (by decide) (by decide) hk1 hFc hP1 hD1
  have hK := (hK.sub (tys' := [(c4, .int)]) [0] rfl).app hK1
  generalize H1 = H at hP hS ⊢
  have hP : va_P (dC, dI) vwCl [(q0, .inr (4, [.ref q1, .ref q12, .int 0, .ref q23, .ref q48, .ref q50, .ref q52])), (q1, .inr (0, [.int 0, .int 0, .int 0, .ref q2, .ref q3, .ref q4, .ref q5, .ref q6, .ref q7, .ref q8, .ref q9, .ref q10, .ref q11])), (q2, .inl (c4, zA 6)), (q3, .inl (c4, zA 6)), (q4, .inl (c4, zA 6)), (q5, .inl (c4, zA 6)), (q6, .inl (c4, zA 36)), (q7, .inl (c4, zA 8)), (q8, .inl (c4, zA 8)), (q9, .inl (c4, zA 8)), (q10, .inl (c4, zA 8)), (q11, .inl (c4, zA 8)), (q12, .inr (0, [.int 0, .int 0, .int 0, .ref q13, .ref q14, .ref q15, .ref q16, .ref q17, .ref q18, .ref q19, .ref q20, .ref q21, .ref q22])), (q13, .inl (c4, zA 6)), (q14, .inl (c4, zA 6)), (q15, .inl (c4, zA 6)), (q16, .inl (c4, zA 6)), (q17, .inl (c4, zA 36)), (q18, .inl (c4, zA 8)), (q19, .inl (c4, zA 8)), (q20, .inl (c4, zA 8)), (q21, .inl (c4, zA 8)), (q22, .inl (c4, zA 8)), (q23, .inr (3, [.ref q24, .ref q35, .ref q46, .ref q47])), (q24, .inr (0, [.int 0, .int 0, .int 0, .ref q25, .ref q26, .ref q27, .ref q28, .ref q29, .ref q30, .ref q31, .ref q32, .ref q33, .ref q34])), (q25, .inl (c4, zA 6)), (q26, .inl (c4, zA 6)), (q27, .inl (c4, zA 6)), (q28, .inl (c4, zA 6)), (q29, .inl (c4, zA 36)), (q30, .inl (c4, zA 8)), (q31, .inl (c4, zA 8)), (q32, .inl (c4, zA 8)), (q33, .inl (c4, zA 8)), (q34, .inl (c4, zA 8)), (q35, .inr (0, [.int 0, .int 0, .int 0, .ref q36, .ref q37, .ref q38, .ref q39, .ref q40, .ref q41, .ref q42, .ref q43, .ref q44, .ref q45])), (q36, .inl (c4, zA 6)), (q37, .inl (c4, zA 6)), (q38, .inl (c4, zA 6)), (q39, .inl (c4, zA 6)), (q40, .inl (c4, zA 36)), (q41, .inl (c4, zA 8)), (q42, .inl (c4, zA 8)), (q43, .inl (c4, zA 8)), (q44, .inl (c4, zA 8)), (q45, .inl (c4, zA 8)), (q46, .inl (c4, zA 4)), (q47, .inl (c4, zA 4)), (q48, .inr (2, [.int 0, .ref q49])), (q49, .inl (c4, zA 96)), (q50, .inr (1, [.int 0, .ref q51])), (q51, .inl (c4, zA 16)), (q52, .inl (c4, zA 7)), (q53, .inr (5, [.ref q54, .ref q55, .ref q56, .ref q57, .ref q58, .ref q59, .ref q60, .ref q61, .ref q62, .ref q63, .ref q64, .int 0, .int 0, .int 0, .ref q65, .ref q66, .ref q67, .ref q68, .int 0, .int 0, .int 0, .ref q69, .int 0, .int 0, .int 0, .ref q70, .ref q71, .int 0])), (q54, .inl (c5, zA 7)), (q55, .inl (c5, zA 6)), (q56, .inl (c5, zA 6)), (q57, .inl (c5, zA 6)), (q58, .inl (c5, zA 6)), (q59, .inl (c5, zA 36)), (q60, .inl (c5, zA 8)), (q61, .inl (c5, zA 8)), (q62, .inl (c5, zA 8)), (q63, .inl (c5, zA 8)), (q64, .inl (c5, zA 8)), (q65, .inl (c5, zA 96)), (q66, .inl (c5, zA 48)), (q67, .inl (c5, zA 48)), (q68, .inl (c5, zA 144)), (q69, .inl (c5, zA 309)), (q70, .inl (c5, zA 8)), (q71, .inl (c5, zA 16))] H := hP
  have hD : va_D (fun q : Nat => s.heap.size ≤ q) [(q0, .inr (4, [.ref q1, .ref q12, .int 0, .ref q23, .ref q48, .ref q50, .ref q52])), (q1, .inr (0, [.int 0, .int 0, .int 0, .ref q2, .ref q3, .ref q4, .ref q5, .ref q6, .ref q7, .ref q8, .ref q9, .ref q10, .ref q11])), (q2, .inl (c4, zA 6)), (q3, .inl (c4, zA 6)), (q4, .inl (c4, zA 6)), (q5, .inl (c4, zA 6)), (q6, .inl (c4, zA 36)), (q7, .inl (c4, zA 8)), (q8, .inl (c4, zA 8)), (q9, .inl (c4, zA 8)), (q10, .inl (c4, zA 8)), (q11, .inl (c4, zA 8)), (q12, .inr (0, [.int 0, .int 0, .int 0, .ref q13, .ref q14, .ref q15, .ref q16, .ref q17, .ref q18, .ref q19, .ref q20, .ref q21, .ref q22])), (q13, .inl (c4, zA 6)), (q14, .inl (c4, zA 6)), (q15, .inl (c4, zA 6)), (q16, .inl (c4, zA 6)), (q17, .inl (c4, zA 36)), (q18, .inl (c4, zA 8)), (q19, .inl (c4, zA 8)), (q20, .inl (c4, zA 8)), (q21, .inl (c4, zA 8)), (q22, .inl (c4, zA 8)), (q23, .inr (3, [.ref q24, .ref q35, .ref q46, .ref q47])), (q24, .inr (0, [.int 0, .int 0, .int 0, .ref q25, .ref q26, .ref q27, .ref q28, .ref q29, .ref q30, .ref q31, .ref q32, .ref q33, .ref q34])), (q25, .inl (c4, zA 6)), (q26, .inl (c4, zA 6)), (q27, .inl (c4, zA 6)), (q28, .inl (c4, zA 6)), (q29, .inl (c4, zA 36)), (q30, .inl (c4, zA 8)), (q31, .inl (c4, zA 8)), (q32, .inl (c4, zA 8)), (q33, .inl (c4, zA 8)), (q34, .inl (c4, zA 8)), (q35, .inr (0, [.int 0, .int 0, .int 0, .ref q36, .ref q37, .ref q38, .ref q39, .ref q40, .ref q41, .ref q42, .ref q43, .ref q44, .ref q45])), (q36, .inl (c4, zA 6)), (q37, .inl (c4, zA 6)), (q38, .inl (c4, zA 6)), (q39, .inl (c4, zA 6)), (q40, .inl (c4, zA 36)), (q41, .inl (c4, zA 8)), (q42, .inl (c4, zA 8)), (q43, .inl (c4, zA 8)), (q44, .inl (c4, zA 8)), (q45, .inl (c4, zA 8)), (q46, .inl (c4, zA 4)), (q47, .inl (c4, zA 4)), (q48, .inr (2, [.int 0, .ref q49])), (q49, .inl (c4, zA 96)), (q50, .inr (1, [.int 0, .ref q51])), (q51, .inl (c4, zA 16)), (q52, .inl (c4, zA 7)), (q53, .inr (5, [.ref q54, .ref q55, .ref q56, .ref q57, .ref q58, .ref q59, .ref q60, .ref q61, .ref q62, .ref q63, .ref q64, .int 0, .int 0, .int 0, .ref q65, .ref q66, .ref q67, .ref q68, .int 0, .int 0, .int 0, .ref q69, .int 0, .int 0, .int 0, .ref q70, .ref q71, .int 0])), (q54, .inl (c5, zA 7)), (q55, .inl (c5, zA 6)), (q56, .inl (c5, zA 6)), (q57, .inl (c5, zA 6)), (q58, .inl (c5, zA 6)), (q59, .inl (c5, zA 36)), (q60, .inl (c5, zA 8)), (q61, .inl (c5, zA 8)), (q62, .inl (c5, zA 8)), (q63, .inl (c5, zA 8)), (q64, .inl (c5, zA 8)), (q65, .inl (c5, zA 96)), (q66, .inl (c5, zA 48)), (q67, .inl (c5, zA 48)), (q68, .inl (c5, zA 144)), (q69, .inl (c5, zA 309)), (q70, .inl (c5, zA 8)), (q71, .inl (c5, zA 16))] := hD
  have hK : va_K (dC, dI) vwCl [(c4, .int), (c5, .int)] s := hK
  have e_c5 := tyU hK
  rw [e_c5] at hP hD
  have hK := hK.sub (tys' := [(c4, .int)]) [0] rfl
  have hP : va_P (dC, dI) vwCl [(q0, .inr (4, [.ref q1, .ref q12, .int 0, .ref q23, .ref q48, .ref q50, .ref q52])), (q1, .inr (0, [.int 0, .int 0, .int 0, .ref q2, .ref q3, .ref q4, .ref q5, .ref q6, .ref q7, .ref q8, .ref q9, .ref q10, .ref q11])), (q2, .inl (c4, zA 6)), (q3, .inl (c4, zA 6)), (q4, .inl (c4, zA 6)), (q5, .inl (c4, zA 6)), (q6, .inl (c4, zA 36)), (q7, .inl (c4, zA 8)), (q8, .inl (c4, zA 8)), (q9, .inl (c4, zA 8)), (q10, .inl (c4, zA 8)), (q11, .inl (c4, zA 8)), (q12, .inr (0, [.int 0, .int 0, .int 0, .ref q13, .ref q14, .ref q15, .ref q16, .ref q17, .ref q18, .ref q19, .ref q20, .ref q21, .ref q22])), (q13, .inl (c4, zA 6)), (q14, .inl (c4, zA 6)), (q15, .inl (c4, zA 6)), (q16, .inl (c4, zA 6)), (q17, .inl (c4, zA 36)), (q18, .inl (c4, zA 8)), (q19, .inl (c4, zA 8)), (q20, .inl (c4, zA 8)), (q21, .inl (c4, zA 8)), (q22, .inl (c4, zA 8)), (q23, .inr (3, [.ref q24, .ref q35, .ref q46, .ref q47])), (q24, .inr (0, [.int 0, .int 0, .int 0, .ref q25, .ref q26, .ref q27, .ref q28, .ref q29, .ref q30, .ref q31, .ref q32, .ref q33, .ref q34])), (q25, .inl (c4, zA 6)), (q26, .inl (c4, zA 6)), (q27, .inl (c4, zA 6)), (q28, .inl (c4, zA 6)), (q29, .inl (c4, zA 36)), (q30, .inl (c4, zA 8)), (q31, .inl (c4, zA 8)), (q32, .inl (c4, zA 8)), (q33, .inl (c4, zA 8)), (q34, .inl (c4, zA 8)), (q35, .inr (0, [.int 0, .int 0, .int 0, .ref q36, .ref q37, .ref q38, .ref q39, .ref q40, .ref q41, .ref q42, .ref q43, .ref q44, .ref q45])), (q36, .inl (c4, zA 6)), (q37, .inl (c4, zA 6)), (q38, .inl (c4, zA 6)), (q39, .inl (c4, zA 6)), (q40, .inl (c4, zA 36)), (q41, .inl (c4, zA 8)), (q42, .inl (c4, zA 8)), (q43, .inl (c4, zA 8)), (q44, .inl (c4, zA 8)), (q45, .inl (c4, zA 8)), (q46, .inl (c4, zA 4)), (q47, .inl (c4, zA 4)), (q48, .inr (2, [.int 0, .ref q49])), (q49, .inl (c4, zA 96)), (q50, .inr (1, [.int 0, .ref q51])), (q51, .inl (c4, zA 16)), (q52, .inl (c4, zA 7)), (q53, .inr (5, [.ref q54, .ref q55, .ref q56, .ref q57, .ref q58, .ref q59, .ref q60, .ref q61, .ref q62, .ref q63, .ref q64, .int 0, .int 0, .int 0, .ref q65, .ref q66, .ref q67, .ref q68, .int 0, .int 0, .int 0, .ref q69, .int 0, .int 0, .int 0, .ref q70, .ref q71, .int 0])), (q54, .inl (c4, zA 7)), (q55, .inl (c4, zA 6)), (q56, .inl (c4, zA 6)), (q57, .inl (c4, zA 6)), (q58, .inl (c4, zA 6)), (q59, .inl (c4, zA 36)), (q60, .inl (c4, zA 8)), (q61, .inl (c4, zA 8)), (q62, .inl (c4, zA 8)), (q63, .inl (c4, zA 8)), (q64, .inl (c4, zA 8)), (q65, .inl (c4, zA 96)), (q66, .inl (c4, zA 48)), (q67, .inl (c4, zA 48)), (q68, .inl (c4, zA 144)), (q69, .inl (c4, zA 309)), (q70, .inl (c4, zA 8)), (q71, .inl (c4, zA 16))] H := hP
  have hD : va_D (fun q : Nat => s.heap.size ≤ q) [(q0, .inr (4, [.ref q1, .ref q12, .int 0, .ref q23, .ref q48, .ref q50, .ref q52])), (q1, .inr (0, [.int 0, .int 0, .int 0, .ref q2, .ref q3, .ref q4, .ref q5, .ref q6, .ref q7, .ref q8, .ref q9, .ref q10, .ref q11])), (q2, .inl (c4, zA 6)), (q3, .inl (c4, zA 6)), (q4, .inl (c4, zA 6)), (q5, .inl (c4, zA 6)), (q6, .inl (c4, zA 36)), (q7, .inl (c4, zA 8)), (q8, .inl (c4, zA 8)), (q9, .inl (c4, zA 8)), (q10, .inl (c4, zA 8)), (q11, .inl (c4, zA 8)), (q12, .inr (0, [.int 0, .int 0, .int 0, .ref q13, .ref q14, .ref q15, .ref q16, .ref q17, .ref q18, .ref q19, .ref q20, .ref q21, .ref q22])), (q13, .inl (c4, zA 6)), (q14, .inl (c4, zA 6)), (q15, .inl (c4, zA 6)), (q16, .inl (c4, zA 6)), (q17, .inl (c4, zA 36)), (q18, .inl (c4, zA 8)), (q19, .inl (c4, zA 8)), (q20, .inl (c4, zA 8)), (q21, .inl (c4, zA 8)), (q22, .inl (c4, zA 8)), (q23, .inr (3, [.ref q24, .ref q35, .ref q46, .ref q47])), (q24, .inr (0, [.int 0, .int 0, .int 0, .ref q25, .ref q26, .ref q27, .ref q28, .ref q29, .ref q30, .ref q31, .ref q32, .ref q33, .ref q34])), (q25, .inl (c4, zA 6)), (q26, .inl (c4, zA 6)), (q27, .inl (c4, zA 6)), (q28, .inl (c4, zA 6)), (q29, .inl (c4, zA 36)), (q30, .inl (c4, zA 8)), (q31, .inl (c4, zA 8)), (q32, .inl (c4, zA 8)), (q33, .inl (c4, zA 8)), (q34, .inl (c4, zA 8)), (q35, .inr (0, [.int 0, .int 0, .int 0, .ref q36, .ref q37, .ref q38, .ref q39, .ref q40, .ref q41, .ref q42, .ref q43, .ref q44, .ref q45])), (q36, .inl (c4, zA 6)), (q37, .inl (c4, zA 6)), (q38, .inl (c4, zA 6)), (q39, .inl (c4, zA 6)), (q40, .inl (c4, zA 36)), (q41, .inl (c4, zA 8)), (q42, .inl (c4, zA 8)), (q43, .inl (c4, zA 8)), (q44, .inl (c4, zA 8)), (q45, .inl (c4, zA 8)), (q46, .inl (c4, zA 4)), (q47, .inl (c4, zA 4)), (q48, .inr (2, [.int 0, .ref q49])), (q49, .inl (c4, zA 96)), (q50, .inr (1, [.int 0, .ref q51])), (q51, .inl (c4, zA 16)), (q52, .inl (c4, zA 7)), (q53, .inr (5, [.ref q54, .ref q55, .ref q56, .ref q57, .ref q58, .ref q59, .ref q60, .ref q61, .ref q62, .ref q63, .ref q64, .int 0, .int 0, .int 0, .ref q65, .ref q66, .ref q67, .ref q68, .int 0, .int 0, .int 0, .ref q69, .int 0, .int 0, .int 0, .ref q70, .ref q71, .int 0])), (q54, .inl (c4, zA 7)), (q55, .inl (c4, zA 6)), (q56, .inl (c4, zA 6)), (q57, .inl (c4, zA 6)), (q58, .inl (c4, zA 6)), (q59, .inl (c4, zA 36)), (q60, .inl (c4, zA 8)), (q61, .inl (c4, zA 8)), (q62, .inl (c4, zA 8)), (q63, .inl (c4, zA 8)), (q64, .inl (c4, zA 8)), (q65, .inl (c4, zA 96)), (q66, .inl (c4, zA 48)), (q67, .inl (c4, zA 48)), (q68, .inl (c4, zA 144)), (q69, .inl (c4, zA 309)), (q70, .inl (c4, zA 8)), (q71, .inl (c4, zA 16))] := hD
  refine W.widen (k := 72) (n := 1398) (by omega) (by omega) ?_
  refine lv_astore_n (lv' := [(2, .ref q53), (1, .ref q0), (0, .ref b)]) hx hb dL_law_15 rfl hl (by decide) rfl (fun ls hl => ?_)
  refine lv_iconst (v := 0) hx hb dL_law_16 (by decide) ?_
  refine lv_istore_n (lv' := [(3, .int 0), (2, .ref q53), (1, .ref q0), (0, .ref b)]) hx hb dL_law_17 rfl hl (by decide) rfl (fun ls hl => ?_)
  have hP : va_P (dC, dI) vwCl (wd0 q0 q1 q2 q3 q4 q5 q6 q7 q8 q9 q10 q11 q12 q13 q14 q15 q16 q17 q18 q19 q20 q21 q22 q23 q24 q25 q26 q27 q28 q29 q30 q31 q32 q33 q34 q35 q36 q37 q38 q39 q40 q41 q42 q43 q44 q45 q46 q47 q48 q49 q50 q51 q52 q53 q54 q55 q56 q57 q58 q59 q60 q61 q62 q63 q64 q65 q66 q67 q68 q69 q70 q71 c4) H := hP
  have hD : va_D (fun q : Nat => s.heap.size ≤ q) (wd0 q0 q1 q2 q3 q4 q5 q6 q7 q8 q9 q10 q11 q12 q13 q14 q15 q16 q17 q18 q19 q20 q21 q22 q23 q24 q25 q26 q27 q28 q29 q30 q31 q32 q33 q34 q35 q36 q37 q38 q39 q40 q41 q42 q43 q44 q45 q46 q47 q48 q49 q50 q51 q52 q53 q54 q55 q56 q57 q58 q59 q60 q61 q62 q63 q64 q65 q66 q67 q68 q69 q70 q71 c4) := hD
  have had : adS q0 q1 q2 q3 q4 q5 q6 q7 q8 q9 q10 q11 q12 q13 q14 q15 q16 q17 q18 q19 q20 q21 q22 q23 q24 q25 q26 q27 q28 q29 q30 q31 q32 q33 q34 q35 q36 q37 q38 q39 q40 q41 q42 q43 q44 q45 q46 q47 q48 q49 q50 q51 q52 q53 q54 q55 q56 q57 q58 q59 q60 q61 q62 q63 q64 q65 q66 q67 q68 q69 q70 q71 0 = q0 := rfl
  have had3 : adS q0 q1 q2 q3 q4 q5 q6 q7 q8 q9 q10 q11 q12 q13 q14 q15 q16 q17 q18 q19 q20 q21 q22 q23 q24 q25 q26 q27 q28 q29 q30 q31 q32 q33 q34 q35 q36 q37 q38 q39 q40 q41 q42 q43 q44 q45 q46 q47 q48 q49 q50 q51 q52 q53 q54 q55 q56 q57 q58 q59 q60 q61 q62 q63 q64 q65 q66 q67 q68 q69 q70 q71 53 = q53 := rfl
  rw [← wd0_cws q0 q1 q2 q3 q4 q5 q6 q7 q8 q9 q10 q11 q12 q13 q14 q15 q16 q17 q18 q19 q20 q21 q22 q23 q24 q25 q26 q27 q28 q29 q30 q31 q32 q33 q34 q35 q36 q37 q38 q39 q40 q41 q42 q43 q44 q45 q46 q47 q48 q49 q50 q51 q52 q53 q54 q55 q56 q57 q58 q59 q60 q61 q62 q63 q64 q65 q66 q67 q68 q69 q70 q71 c4 xa uv] at hP hD
  generalize adS q0 q1 q2 q3 q4 q5 q6 q7 q8 q9 q10 q11 q12 q13 q14 q15 q16 q17 q18 q19 q20 q21 q22 q23 q24 q25 q26 q27 q28 q29 q30 q31 q32 q33 q34 q35 q36 q37 q38 q39 q40 q41 q42 q43 q44 q45 q46 q47 q48 q49 q50 q51 q52 q53 q54 q55 q56 q57 q58 q59 q60 q61 q62 q63 q64 q65 q66 q67 q68 q69 q70 q71 = ad at hP hD had had3
  exact law_run hL C0 hxa hE hts hK hP hD hS had had3 hl
set_option maxHeartbeats 4000000 in
theorem lw_walk (l : Launch) (hflags : l.flags = flags0) (b : Addr) (xs : List Int32) : MetFree l x (headSpec (Jvm.Cond.code x code maxLocals ret :: tables_1) room_1) (lw_P b xs) (fun _ _ _ _ _ => True) lw_Q := by
  refine MetFree.of_bodyS (code := code) (maxLocals := maxLocals) (ret := ret) (by decide) ?_ ?_
  · intro args s m h hn
    obtain ⟨meth, c, h1, h2, h3, h4, h5, h6, -, -⟩ := Cond.code_spec hn (atoms_spec (ws := Jvm.Cond.code x code maxLocals ret :: tables_1) h _ List.mem_cons_self)
    exact ⟨meth, c, h1, h2, h3, h4, h5, h6⟩
  · intro p e s m args below meth c s₁ B hml0 hP _
    obtain ⟨rfl, hx, hbd, hgv⟩ := hP
    obtain ⟨scr, harrAt, hlist, hof, hsmall⟩ := hx
    obtain ⟨hcb, hkn, -, -⟩ := State.arrayAt?_spec harrAt
    have hown : s.vm.findClass R_law = some m.cls := findClass_of_methodNamed B.named
    have hts0 : ∀ c ∈ (Jvm.Cond.code x code maxLocals ret :: tables_1), c.before #[Value.ref b] s = true := atoms_spec (ws := Jvm.Cond.code x code maxLocals ret :: tables_1) B.pre
    have hts : ∀ w ∈ lw_tbl, w.before #[Value.ref b] s = true := k2_hts_sels lw_privs (fun w hw => hts0 w (List.mem_cons_of_mem _ hw)) lw_privs_ok
    have hml : c.maxLocals = 4 := B.maxLocals_eq (hts0 _ List.mem_cons_self)
    have X₀ : Stand p l e room_1 s m #[Value.ref b] below meth c s₁ [] 0 0 := Stand.of_body B
    have hh0 : s₁.heap = s.heap := by rw [B.state]; rfl
    have hsz : scr.slots.size = xs.length := by rw [← Array.length_toList, hlist, List.length_map]
    have hval : ∀ j : Nat, j < xs.length → scr.slots[j]? = some (.int (xs.getD j 0)) := fun j hj => by
      rw [← Array.getElem?_toList, hlist]
      simp [hj]
    have hbl : b < s.heap.size := (Array.getElem?_eq_some_iff.mp hcb).1
    have hX : va_X b xs.length (fun j => xs.getD j 0) s s.heap := ⟨scr, hcb, hof, hkn, hsz, hval⟩
    have K : W p l e room_1 s m #[Value.ref b] below meth c s₁.heap [] 0 0 (lw_Z below #[Value.ref b] s) (entryFrame m ([Value.ref b] : List Value).toArray 4) := by
      rw [hh0]
      exact whole_start l hflags hbd ⟨B.exec, B.bytes, B.returns, hml, hown, hts, hX, hbl, B.notSynchronized, hgv⟩
    obtain ⟨t, a1, o, b1, b2, b3⟩ := K s₁ rfl X₀
    exact ⟨t, o, a1, b1, b2, b3⟩
theorem lw_pre_spec {args : Array Value} {s : State} (h : (Jvm.Cond.and given_1 narrow_1).before args s = true) (hr : rest_1_c.before args s = true) : ∃ (b : Addr) (xs : List Int32), lw_P b xs args s := by
  have hs := flat_of_before _ h
  have hq := flat_of_before _ hr
  have hc : (Cond.count 1).before args s = true := hs _ (by decide +kernel)
  have harr : (Cond.arrayOf (.arg 0) .int).before args s = true := hs _ (by decide +kernel)
  have hle : (Cond.le (.length (.arg 0)) (.int 2560)).before args s = true := hs _ (by decide +kernel)
  have hlen : (Cond.isInt (.length (.arg 0))).before args s = true := hq _ (by decide +kernel)
  have hall : (Cond.all (.arg 0) (.isInt (.elem (.arg 0) (.index 0)))).before args s = true := hq _ (by decide +kernel)
  obtain ⟨b, xs, hb, hx⟩ := State.ints_of_pre rfl harr hlen hall
  have hsm : xs.length < 2 ^ 31 := hx.choose_spec.2.2.2
  have hev : (Term.length (.arg 0)).eval args s none [] s = some (.int xs.length.toInt32) := hx.length_eval hb
  have hv := Cond.le_ints hev (show (Term.int 2560).eval args s none [] s = some (.int 2560) from rfl)
  have hd : xs.length.toInt32 ≤ 2560 := by
    simpa [Cond.before, Cond.holds, hv] using hle
  have hN : xs.length ≤ 2560 := (Int32.ofNat_le_ofNat hsm (by decide)).mp (show Int32.ofNat xs.length ≤ Int32.ofNat 2560 from hd)
  exact ⟨b, xs, Cond.one_arg hc (show args[0]? = some (.ref b) from hb), hx, hN, h⟩
theorem lw_comes (l : Launch) (hflags : l.flags = flags0) : Comes l x (Jvm.Cond.code x code maxLocals ret :: tables_1) room_1 (fun tb e args s => Calls_1 tb e args s ∧ rest_1 tb e args s ∧ Pre_1 tb e args s)
    (fun _ _ args s o t => lw_Q args s o t) := by
  intro p e ha hc hk s m args below hf hfit hheap happ hpre
  obtain ⟨b, xs, hP⟩ := lw_pre_spec hpre.2.2 hpre.2.1
  obtain ⟨k, o, h1, h2, h3, hQ⟩ := lw_walk l hflags b xs p e ha hc hk s m args below hf ((Spec.applies_iff_loose hf).mp happ).1 hP trivial
  exact ⟨k, o, h1, h2, h3, hQ⟩
theorem lw_frame {s t : State} {o : Outcome} {args : Array Value} (h : Framed s o t [] 72 1398) :
    Framed s o t (fieldLocs frame_1_writes args s ++ arrayLocs frame_1_arrays args s ++ staticLocs frame_1_statics s) 72 1398 := h
theorem lw_limb (L : Cond) (hL : ∀ (args : Array Value) (s t : State), L.after args s (.returned (some (.int 1))) t = true) :
    ArmFor flags0 classFile x code maxLocals ret World_1 tables_1 room_1 Calls_1 rest_1 Pre_1
      (fun tb e a s o t => postC L tb e a s o t ∧ Framed s o t (fieldLocs frame_1_writes a s ++ arrayLocs frame_1_arrays a s ++ staticLocs frame_1_statics s) 72 1398) := by
  intro l hflags _ _ p e ha hc hk s m args below hf hfit hheap happ hpre
  obtain ⟨k, o, h1, h2, h3, rfl, hF⟩ := lw_comes l hflags p e ha hc hk s m args below hf hfit hheap happ hpre
  exact ⟨k, _, h1, h2, h3, hL args s _, lw_frame hF⟩
theorem i_vc : Claimed_1_1 ∧ Claimed_1_2 := ⟨lw_limb limb_1_1 (fun args s t => by simp [limb_1_1, Cond.after, Cond.holds, Cond.value]), lw_limb limb_1_2 (fun args s t => Cond.after_iff.mpr (by
  first | (rw [show limb_1_2 = Cond.eq .result (.int 1) from rfl, Cond.eq_ints (x := 1) (y := 1) rfl rfl]; simp; done) | (simp [limb_1_2, Cond.value, Term.eval]; done)))⟩
