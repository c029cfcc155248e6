/-! THE START: what lies outside the made objects -/
theorem lw_in1 {w : Cond} (h : w ∈ tables_1_1) : w ∈ lw_tbl := List.mem_append_right _ (List.mem_append_left _ h)
def kS (i : Nat) : Nat := match i with | 0 => 19 | 1 => 21 | 2 => 23 | 3 => 25 | 4 => 27 | 5 => 29 | 6 => 31 | _ => 33
abbrev tmS (i : Nat) : Term := Term.string "PostByEnemy$Text" (kS i)
theorem w32_toInt (n : Int32) : w32 n.toInt = n.toInt := by
  unfold w32
  rw [Int32.ofInt_toInt]
theorem s_ex : ∀ i, i < 8 → Cond.exactly (tmS i) "java/lang/String" ∈ flatC (Jvm.Cond.and given_1 narrow_1) := by decide +kernel
theorem s_co : ∀ i, i < 8 → Cond.eq (.field (tmS i) "java/lang/String" "coder" "B") (.int 0) ∈ flatC (Jvm.Cond.and given_1 narrow_1) := by decide +kernel
theorem s_ar : ∀ i, i < 8 → Cond.arrayOf (.field (tmS i) "java/lang/String" "value" "[B") .byte ∈ flatC (Jvm.Cond.and given_1 narrow_1) := by decide +kernel
theorem s_le : ∀ i, i < 8 → Cond.eq (.length (.field (tmS i) "java/lang/String" "value" "[B")) (.int (Int32.ofNat (sLen.getD i 0))) ∈ flatC (Jvm.Cond.and given_1 narrow_1) := by decide +kernel
theorem s_el : ∀ i, i < 8 → ∀ j, j < sLen.getD i 0 → Cond.eq (.elem (.field (tmS i) "java/lang/String" "value" "[B") (.int (Int32.ofNat j))) (.int ((sByt.getD i []).getD j 0)) ∈ flatC (Jvm.Cond.and given_1 narrow_1) := by decide +kernel
theorem s_ne : ∀ i, i < 8 → ∀ j, j < 8 → i ≠ j → Cond.not (Cond.eq (tmS i) (tmS j)) ∈ flatC (Jvm.Cond.and given_1 narrow_1) ∨ Cond.not (Cond.eq (tmS j) (tmS i)) ∈ flatC (Jvm.Cond.and given_1 narrow_1) := by decide +kernel
theorem s_cs : Cond.eq (.static "java/lang/String" "COMPACT_STRINGS" "Z") (.int 1) ∈ flatC (Jvm.Cond.and given_1 narrow_1) := by decide +kernel
theorem s_si : Cond.isRef (.static "jdk/internal/util/Preconditions" "SIOOBE_FORMATTER" "Ljava/util/function/BiFunction;") ∈ flatC (Jvm.Cond.and given_1 narrow_1) := by decide +kernel
theorem s_r0 : Cond.stringRef "PostByEnemy$Text" 19 "pK###;" ∈ lw_tbl := lw_in1 (List.mem_of_getElem? (i := 180) rfl)
theorem s_r1 : Cond.stringRef "PostByEnemy$Text" 21 "h####;" ∈ lw_tbl := lw_in1 (List.mem_of_getElem? (i := 181) rfl)
theorem s_r2 : Cond.stringRef "PostByEnemy$Text" 23 "c##;" ∈ lw_tbl := lw_in1 (List.mem_of_getElem? (i := 182) rfl)
theorem s_r3 : Cond.stringRef "PostByEnemy$Text" 25 "s##;" ∈ lw_tbl := lw_in1 (List.mem_of_getElem? (i := 183) rfl)
theorem s_r4 : Cond.stringRef "PostByEnemy$Text" 27 "m##;" ∈ lw_tbl := lw_in1 (List.mem_of_getElem? (i := 184) rfl)
theorem s_r5 : Cond.stringRef "PostByEnemy$Text" 29 "d##;" ∈ lw_tbl := lw_in1 (List.mem_of_getElem? (i := 185) rfl)
theorem s_r6 : Cond.stringRef "PostByEnemy$Text" 31 "?" ∈ lw_tbl := lw_in1 (List.mem_of_getElem? (i := 186) rfl)
theorem s_r7 : Cond.stringRef "PostByEnemy$Text" 33 "psrblc" ∈ lw_tbl := lw_in1 (List.mem_of_getElem? (i := 238) rfl)
theorem s_ls : Cond.laysStatic "java/lang/String" "COMPACT_STRINGS" "Z" ∈ lw_tbl := lw_in1 (List.mem_of_getElem? (i := 196) rfl)
theorem s_lp : Cond.laysStatic "jdk/internal/util/Preconditions" "SIOOBE_FORMATTER" "Ljava/util/function/BiFunction;" ∈ lw_tbl := lw_in1 (List.mem_of_getElem? (i := 212) rfl)
theorem s_is : Cond.initialized "java/lang/String" ∈ lw_tbl := lw_in1 (List.mem_of_getElem? (i := 7) rfl)
theorem s_ip : Cond.initialized "jdk/internal/util/Preconditions" ∈ lw_tbl := lw_in1 (List.mem_of_getElem? (i := 9) rfl)
/-! THE CLAIM OUT OF ONE WALK OF THE LAW'S BODY. Your part is whole_start (and what it stands on); all else here is the same for every law, but numbers. -/
def R_law : String := "PostByEnemyLaw"
def lw_P (b : Addr) (xs : List Int32) (args : Array Value) (s : State) : Prop := args = #[.ref b] ∧ s.IntsAt b xs ∧ xs.length ≤ 2560 ∧ (Jvm.Cond.and given_1 narrow_1).before args s = true
def lw_Q (_ : Array Value) (s : State) (o : Outcome) (t : State) : Prop := o = .returned (some (.int 1)) ∧ Framed s o t [] 72 1398
def lw_Z (below : List Frame) (a : Array Value) (s : State) : State → Prop := fun t => ∃ o, t.status = .running ∧ Ended t below o ∧ lw_Q a s o t
/-- the law's own end, with 1 on the stack, nothing written that was there before, its room as the claim has it -/
theorem lw_ret {p : Program} {l : Launch} {e : Env} {s : State} {m : MethodId} {below : List Frame} {meth : Method} {c : Code} {b : Nat} (hx : p.tables.exec = Jvm.exec) (hb : c.code = code) (hr : meth.sig.returnType = ret) (hlocks : meth.locks = false) {pc : Nat} {H : Heap} {ls : Array Slot} (hdg : decode code pc = .ok (.ireturn, 1)) : W p l e room_1 s m #[Value.ref b] below meth c H [] 72 1398 (lw_Z below #[Value.ref b] s) (F0 m pc ls [.int 1]) := by
  intro T hT X
  obtain ⟨fs, hret, hrun, hended, hW, hframe⟩ := X.leave (v := some (.int 1)) (hlocks := hlocks) (fun h => by rw [hr] at h; cases h)
  have hmeth' : T.vm.method? m = some meth := X.method'
  refine ⟨T.setFrames fs, ?_, .returned (some (.int 1)), hrun, hended, rfl, ⟨_, rfl⟩, hW, hframe⟩
  jvm_step X.here [X.here.top, hx, hb, hdg, hmeth', hr, ret, narrow_b1]
  (try refine ⟨rfl, ?_⟩); (try refine ⟨rfl, ?_⟩)
  first | (intro acts; rw [hret _ acts rfl rfl rfl]) | rw [hret _ _ rfl rfl rfl]
  exact Steps.refl _
/-- what holds at the law's entry: the machine, the code, the tables' words (any of lw_tbl by 'hts w (by decide +kernel)'), the script of L ints xs at the cell b, what the Statement gives of the start (any of its parts by flat_of_before) -/
def lw_At (p : Program) (s : State) (m : MethodId) (meth : Method) (c : Code) (b L : Nat) (xs : Nat → Int32) : Prop :=
  p.tables.exec = Jvm.exec ∧ c.code = code ∧ meth.sig.returnType = ret ∧ c.maxLocals = 4 ∧ s.vm.findClass R_law = some m.cls ∧ (∀ w ∈ lw_tbl, w.before #[Value.ref b] s = true) ∧ va_X b L xs s s.heap ∧ b < s.heap.size ∧ meth.locks = false ∧ (Jvm.Cond.and given_1 narrow_1).before #[Value.ref b] s = true

theorem conS_inv {k j : Nat} (h : conS 2 k = some j) : ∃ i, i < 8 ∧ k = kS i ∧ j = i + 1 := by
  unfold conS at h
  split at h
  all_goals cases h
  all_goals first | exact ⟨0, by decide, rfl, rfl⟩ | exact ⟨1, by decide, rfl, rfl⟩ | exact ⟨2, by decide, rfl, rfl⟩ | exact ⟨3, by decide, rfl, rfl⟩ | exact ⟨4, by decide, rfl, rfl⟩ | exact ⟨5, by decide, rfl, rfl⟩ | exact ⟨6, by decide, rfl, rfl⟩ | exact ⟨7, by decide, rfl, rfl⟩
theorem s_ref {i : Nat} (h : i < 8) : ∃ tx, Cond.stringRef "PostByEnemy$Text" (kS i) tx ∈ lw_tbl := by
  rcases (show i = 0 ∨ i = 1 ∨ i = 2 ∨ i = 3 ∨ i = 4 ∨ i = 5 ∨ i = 6 ∨ i = 7 by omega) with rfl | rfl | rfl | rfl | rfl | rfl | rfl | rfl
  · exact ⟨_, s_r0⟩
  · exact ⟨_, s_r1⟩
  · exact ⟨_, s_r2⟩
  · exact ⟨_, s_r3⟩
  · exact ⟨_, s_r4⟩
  · exact ⟨_, s_r5⟩
  · exact ⟨_, s_r6⟩
  · exact ⟨_, s_r7⟩
theorem ext_start {p : Program} {s : State} {m : MethodId} {meth : Method} {c : Code} {b L : Nat} {xs : Nat → Int32} (hL : L ≤ 2560) (C0 : lw_At p s m meth c b L xs) : ∃ (xa : Nat → Nat) (uv : Value), xa 0 = b ∧ Ext xa uv ((List.range L).map (fun j => (xs j).toInt)) (fun q => s.heap.size ≤ q) s s.heap := by
  obtain ⟨hx, hb, hr, hml, hown, hts, ⟨scr, g1, g2, g3, g4, g5⟩, hbl, hlocks, hgv⟩ := C0
  have hs := flat_of_before _ hgv
  have hA : ∀ a : Nat, a < s.heap.size → ¬ (fun q => s.heap.size ≤ q) a := fun a h => Nat.not_le.mpr h
  obtain ⟨adK, adV, hS, hE⟩ := vk_Sof (args := #[Value.ref b]) (s := s) (N := 8) (tm := tmS) (len := sLen) (byt := sByt) (A := fun q => s.heap.size ≤ q) (by decide) (fun i hi => hs _ (s_ex i hi)) (fun i hi => hs _ (s_co i hi)) (fun i hi => hs _ (s_ar i hi)) (fun i hi => hs _ (s_le i hi)) (fun i hi j hj => hs _ (s_el i hi j hj)) (fun i j hi hj hij => (s_ne i hi j hj hij).imp (hs _) (hs _)) hA
  have hz : va_Z "java/lang/String" "COMPACT_STRINGS" "Z" (.int 1) (fun q => s.heap.size ≤ q) s s.heap := va_Zof (hts _ s_ls) (hts _ s_is) (va_eqi (hs _ s_cs)) hA
  obtain ⟨uv, hu, hc⟩ : ∃ uv : Value, va_Z "jdk/internal/util/Preconditions" "SIOOBE_FORMATTER" "Ljava/util/function/BiFunction;" uv (fun q => s.heap.size ≤ q) s s.heap ∧ uv.category = 1 := by
    rcases va_Zqof (A := fun q => s.heap.size ≤ q) (hts _ s_lp) (hts _ s_ip) (hs _ s_si) hA with h | ⟨t, h⟩
    · exact ⟨_, h, rfl⟩
    · exact ⟨_, h, rfl⟩
  refine ⟨fun n => if n = 0 then b else if n ≤ 10 then adK (n - 1) else adV (n - 11), uv, rfl, ⟨⟨scr, g1, g2, g3, by simp [g4], fun j hj => ?_⟩, hbl, hA b hbl, ?_, ?_⟩, ?_, ?_, hz, ⟨hu, hc⟩, wN_of hts⟩
  · have hj' : j < L := by simpa using hj
    rw [g5 j hj']
    simp [List.getD_eq_getElem?_getD, hj']
  · simp; omega
  · intro n hn
    obtain ⟨j, -, rfl⟩ := List.mem_map.mp hn
    exact w32_toInt _
  · refine ⟨fun i hi => ?_, fun i j hi hj e => hS.2 i j hi hj ?_⟩
    · have h1 : (fun n => if n = 0 then b else if n ≤ 10 then adK (n - 1) else adV (n - 11)) (i + 1) = adK i := by
        show (if i + 1 = 0 then b else if i + 1 ≤ 10 then adK (i + 1 - 1) else adV (i + 1 - 11)) = _
        rw [if_neg (by omega), if_pos (by omega), Nat.add_sub_cancel]
      have h2 : (fun n => if n = 0 then b else if n ≤ 10 then adK (n - 1) else adV (n - 11)) (i + 11) = adV i := by
        show (if i + 11 = 0 then b else if i + 11 ≤ 10 then adK (i + 11 - 1) else adV (i + 11 - 11)) = _
        rw [if_neg (by omega), if_neg (by omega), Nat.add_sub_cancel]
      dsimp only at h1 h2 ⊢
      rw [h1, h2]
      exact hS.1 i hi
    · simp only [show ¬ i + 1 = 0 by omega, show ¬ j + 1 = 0 by omega, show i + 1 ≤ 10 by omega, show j + 1 ≤ 10 by omega, if_false, if_true, Nat.add_sub_cancel] at e
      exact e
  · intro k j hk
    obtain ⟨i, hi, rfl, rfl⟩ := conS_inv hk
    obtain ⟨tx, htx⟩ := s_ref hi
    refine ⟨tx, vk_R.of (own := "PostByEnemy$Text") (hts _ htx) ?_⟩
    rw [hE i hi]
    simp only [show ¬ i + 1 = 0 by omega, show i + 1 ≤ 10 by omega, if_false, if_true, Nat.add_sub_cancel]
