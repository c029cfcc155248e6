/-! WHAT THE ABSTRACT MACHINE DOES, THE MACHINE DOES -/
theorem i32_w (n : Int) : Int32.ofInt (w32 n) = Int32.ofInt n := Int32.ofInt_toInt _
theorem i64_w (n : Int) : Int64.ofInt (w64 n) = Int64.ofInt n := Int64.ofInt_toInt _
theorem w32_w (n : Int) : w32 (w32 n) = w32 n := by unfold w32; rw [Int32.ofInt_toInt]
theorem w64_w (n : Int) : w64 (w64 n) = w64 n := by unfold w64; rw [Int64.ofInt_toInt]
theorem w32_t (z : Int32) : w32 z.toInt = z.toInt := by unfold w32; rw [Int32.ofInt_toInt]
theorem w32_lt (n : Int) : w32 n < 2 ^ 31 := Int32.toInt_lt _
theorem w32_ge (n : Int) : -2 ^ 31 ≤ w32 n := Int32.le_toInt _
theorem w32_id {n : Int} (h1 : -2147483648 ≤ n) (h2 : n < 2147483648) : w32 n = n := Int32.toInt_ofInt_of_le h1 h2
theorem w64_id {n : Int} (h1 : -9223372036854775808 ≤ n) (h2 : n < 9223372036854775808) : w64 n = n := Int64.toInt_ofInt_of_le h1 h2
theorem c_add (x y : Int) : Int32.ofInt (w32 (x + y)) = Int32.ofInt x + Int32.ofInt y := by rw [i32_w, Int32.ofInt_add]
theorem c_sub (x y : Int) : Int32.ofInt (w32 (x - y)) = Int32.ofInt x - Int32.ofInt y := by rw [i32_w, Int32.ofInt_sub]
theorem c_mul (x y : Int) : Int32.ofInt (w32 (x * y)) = Int32.ofInt x * Int32.ofInt y := by rw [i32_w, Int32.ofInt_mul]
theorem c_neg (x : Int) : Int32.ofInt (w32 (-x)) = -Int32.ofInt x := by rw [i32_w, Int32.ofInt_neg]
theorem c_div {x y : Int} (hx : w32 x = x) (hy : w32 y = y) : Int32.ofInt (w32 (x.tdiv y)) = Int32.ofInt x / Int32.ofInt y := by
  rw [i32_w]
  refine Int32.toInt_inj.mp ?_
  rw [Int32.toInt_div, Int32.toInt_ofInt]
  show _ = ((w32 x).tdiv (w32 y)).bmod (2 ^ 32)
  rw [hx, hy]
theorem c_rem {x y : Int} (hx : w32 x = x) (hy : w32 y = y) : Int32.ofInt (w32 (x.tmod y)) = Int32.ofInt x - Int32.ofInt x / Int32.ofInt y * Int32.ofInt y := by
  rw [← c_div hx hy, i32_w, i32_w, ← Int32.ofInt_mul, ← Int32.ofInt_sub, Int.tmod_def, Int.mul_comm]
theorem l_add (x y : Int) : Int64.ofInt (w64 (x + y)) = Int64.ofInt x + Int64.ofInt y := by rw [i64_w, Int64.ofInt_add]
theorem l_sub (x y : Int) : Int64.ofInt (w64 (x - y)) = Int64.ofInt x - Int64.ofInt y := by rw [i64_w, Int64.ofInt_sub]
theorem l_mul (x y : Int) : Int64.ofInt (w64 (x * y)) = Int64.ofInt x * Int64.ofInt y := by rw [i64_w, Int64.ofInt_mul]
theorem l_div {x y : Int} (hx : w64 x = x) (hy : w64 y = y) : Int64.ofInt (w64 (x.tdiv y)) = Int64.ofInt x / Int64.ofInt y := by
  rw [i64_w]
  refine Int64.toInt_inj.mp ?_
  rw [Int64.toInt_div, Int64.toInt_ofInt]
  show _ = ((w64 x).tdiv (w64 y)).bmod (2 ^ 64)
  rw [hx, hy]
theorem l_rem {x y : Int} (hx : w64 x = x) (hy : w64 y = y) : Int64.ofInt (w64 (x.tmod y)) = Int64.ofInt x - Int64.ofInt x / Int64.ofInt y * Int64.ofInt y := by
  rw [← l_div hx hy, i64_w, i64_w, ← Int64.ofInt_mul, ← Int64.ofInt_sub, Int.tmod_def, Int.mul_comm]
theorem c_lt {x y : Int} (hx : w32 x = x) (hy : w32 y = y) : Int32.ofInt x < Int32.ofInt y ↔ x < y := by
  rw [Int32.lt_iff_toInt_lt]
  show w32 x < w32 y ↔ _
  rw [hx, hy]
theorem c_le {x y : Int} (hx : w32 x = x) (hy : w32 y = y) : Int32.ofInt x ≤ Int32.ofInt y ↔ ¬ y < x := by
  rw [Int32.le_iff_toInt_le]
  show w32 x ≤ w32 y ↔ _
  rw [hx, hy, Int.not_lt]
theorem c_eq {x y : Int} (hx : w32 x = x) (hy : w32 y = y) : Int32.ofInt x = Int32.ofInt y ↔ x = y := by
  rw [← Int32.toInt_inj]
  show w32 x = w32 y ↔ _
  rw [hx, hy]
theorem l_eq {x y : Int} (hx : w64 x = x) (hy : w64 y = y) : Int64.ofInt x = Int64.ofInt y ↔ x = y := by
  rw [← Int64.toInt_inj]
  show w64 x = w64 y ↔ _
  rw [hx, hy]
theorem l_lt {x y : Int} (hx : w64 x = x) (hy : w64 y = y) : Int64.ofInt x < Int64.ofInt y ↔ x < y := by
  rw [Int64.lt_iff_toInt_lt]
  show w64 x < w64 y ↔ _
  rw [hx, hy]
theorem l_cmp {x y : Int} (hx : w64 x = x) (hy : w64 y = y) : lg_cmp (Int64.ofInt x) (Int64.ofInt y) = Int32.ofInt (lcmp x y) := by
  unfold lg_cmp lcmp
  by_cases h1 : y < x
  · rw [if_pos (show Int64.ofInt x > Int64.ofInt y from (l_lt hy hx).mpr h1), if_pos (show x > y from h1)]; rfl
  · rw [if_neg (show ¬ Int64.ofInt x > Int64.ofInt y from fun h => h1 ((l_lt hy hx).mp h)), if_neg (show ¬ x > y from h1)]
    by_cases h2 : x = y
    · rw [if_pos ((l_eq hx hy).mpr h2), if_pos h2]; rfl
    · rw [if_neg (fun h => h2 ((l_eq hx hy).mp h)), if_neg h2]; rfl
theorem w64_of32 {x : Int} (hx : w32 x = x) : w64 x = x := by
  have h1 := w32_lt x
  have h2 := w32_ge x
  rw [hx] at h1 h2
  exact w64_id (by omega) (by omega)
theorem c_i2l {x : Int} (hx : w32 x = x) : (Int32.ofInt x).toInt64 = Int64.ofInt x := by
  refine Int64.toInt_inj.mp ?_
  rw [Int32.toInt_toInt64]
  show w32 x = w64 x
  rw [hx, w64_of32 hx]
theorem c_in {i : Int} {n : Nat} (hi : w32 i = i) (h0 : 0 ≤ i) (h1 : i < n) : vp_in (Int32.ofInt i) n := by
  rw [vp_in_iff]
  show 0 ≤ w32 i ∧ w32 i < n
  rw [hi]
  exact ⟨h0, h1⟩
theorem c_nat {i : Int} (hi : w32 i = i) : (Int32.ofInt i).toNatClampNeg = i.toNat := by
  show (w32 i).toNat = _
  rw [hi]
/-- values, cells, the world -/
def cv (ad xa : Nat → Nat) (uv : Value) : AV → Value
  | .inl n => .int (Int32.ofInt n)
  | .inr (.inl n) => .long (Int64.ofInt n)
  | .inr (.inr (.inl i)) => .ref (ad i)
  | .inr (.inr (.inr (.inl j))) => .ref (xa j)
  | .inr (.inr (.inr (.inr 0))) => .null
  | .inr (.inr (.inr (.inr (_ + 1)))) => uv
def ccell (ad xa : Nat → Nat) (uv : Value) (cA : ClassId) : AC → va_E
  | .inl x => .inr (x.1, x.2.map (cv ad xa uv))
  | .inr l => .inl (cA, (l.length, .inl (fun j => Int32.ofInt (l.getD j 0))))
def cws (ad xa : Nat → Nat) (uv : Value) (cA : ClassId) (mem : AM) : va_W := (List.range 72).map (fun i => (ad i, ccell ad xa uv cA (mem i)))
theorem cws_get {ad xa : Nat → Nat} {uv : Value} {cA : ClassId} {mem : AM} {i : Nat} (h : i < 72) : (cws ad xa uv cA mem)[i]? = some (ad i, ccell ad xa uv cA (mem i)) := by
  unfold cws
  rw [List.getElem?_map, List.getElem?_range h]
  rfl
theorem cws_set {ad xa : Nat → Nat} {uv : Value} {cA : ClassId} {mem : AM} {i : Nat} {x : AC} {e : va_E} (he : e = ccell ad xa uv cA x) : (cws ad xa uv cA mem).set i (ad i, e) = cws ad xa uv cA (mset mem i x) := by
  subst he
  refine List.ext_getElem? fun j => ?_
  unfold cws
  rw [List.getElem?_set, List.getElem?_map, List.getElem?_map]
  by_cases hj : j < 72
  · rw [List.getElem?_range hj]
    by_cases hij : i = j
    · subst hij
      rw [if_pos rfl, if_pos (by simpa using hj)]
      simp [mset]
    · rw [if_neg hij]
      simp [mset, Ne.symm hij]
  · have h0 : (List.range 72)[j]? = none := by rw [List.getElem?_eq_none_iff]; simp; omega
    rw [h0]
    by_cases hij : i = j
    · subst hij
      rw [if_pos rfl, if_neg (by simpa using hj)]
      rfl
    · rw [if_neg hij]
      rfl
theorem cws_D {ad xa : Nat → Nat} {uv : Value} {cA : ClassId} {mem : AM} {A : Nat → Prop} (hA : ∀ i, i < 72 → A (ad i)) (hI : ∀ i j, i < 72 → j < 72 → ad i = ad j → i = j) : va_D A (cws ad xa uv cA mem) := by
  have key : ∀ (k : Nat) (q : Nat × va_E), (cws ad xa uv cA mem)[k]? = some q → k < 72 ∧ q.1 = ad k := by
    intro k q hk
    have hk2 : k < 72 := by
      have h1 := (List.getElem?_eq_some_iff.mp hk).1
      simpa [cws] using h1
    rw [cws_get hk2] at hk
    cases hk
    exact ⟨hk2, rfl⟩
  refine ⟨fun i j p q hp hq h => ?_, fun k q hk => ?_⟩
  · obtain ⟨h1, h2⟩ := key i p hp
    obtain ⟨h3, h4⟩ := key j q hq
    exact hI i j h1 h3 (by rw [← h2, ← h4]; exact h)
  · obtain ⟨h1, h2⟩ := key k q hk
    rw [h2]
    exact hA k h1
def okV : AV → Prop
  | .inl n => w32 n = n
  | .inr (.inl n) => w64 n = n
  | .inr (.inr _) => True
def okC : AC → Prop
  | .inl x => ∀ v ∈ x.2, okV v
  | .inr l => (∀ n ∈ l, w32 n = n) ∧ l.length < 2 ^ 31
def okM (mem : AM) : Prop := (∀ i, okC (mem i)) ∧ ∀ i, 72 ≤ i → mem i = .inl (999, [])
def okS (al st : List AV) (mem : AM) : Prop := (∀ v ∈ al, okV v) ∧ (∀ v ∈ st, okV v) ∧ okM mem
theorem okM_lt {mem : AM} (h : okM mem) {a : Nat} {l : List Int} (ha : mem a = .inr l) : a < 72 := by
  rcases Nat.lt_or_ge a 72 with q | q
  · exact q
  · rw [h.2 a q] at ha; cases ha
theorem okM_ltO {mem : AM} (h : okM mem) {a c : Nat} {fs : List AV} (ha : mem a = .inl (c, fs)) (hc : c ≠ 999) : a < 72 := by
  rcases Nat.lt_or_ge a 72 with q | q
  · exact q
  · rw [h.2 a q] at ha; cases ha; exact absurd rfl hc
theorem okM_set {mem : AM} (h : okM mem) {a : Nat} (ha : a < 72) {x : AC} (hx : okC x) : okM (mset mem a x) := by
  refine ⟨fun i => ?_, fun i hi => ?_⟩
  · unfold mset
    split
    · exact hx
    · exact h.1 i
  · unfold mset
    rw [if_neg (by omega)]
    exact h.2 i hi
theorem ok_set {l : List AV} (h : ∀ v ∈ l, okV v) {i : Nat} {x : AV} (hx : okV x) : ∀ v ∈ l.set i x, okV v := by
  intro v hv
  rcases List.mem_or_eq_of_mem_set hv with q | q
  · exact h v q
  · rw [q]; exact hx
theorem ok_cons {l : List AV} (h : ∀ v ∈ l, okV v) {x : AV} (hx : okV x) : ∀ v ∈ x :: l, okV v := by
  intro v hv
  rcases List.mem_cons.mp hv with q | q
  · rw [q]; exact hx
  · exact h v q
theorem ok_tl {l : List AV} {x : AV} (h : ∀ v ∈ x :: l, okV v) : ∀ v ∈ l, okV v := fun v hv => h v (List.mem_cons_of_mem _ hv)
theorem ok_hd {l : List AV} {x : AV} (h : ∀ v ∈ x :: l, okV v) : okV x := h x List.mem_cons_self
theorem ok_at {l : List AV} (h : ∀ v ∈ l, okV v) {i : Nat} {x : AV} (hi : l[i]? = some x) : okV x := h x (List.mem_of_getElem? hi)
theorem okI_at {l : List Int} (h : ∀ n ∈ l, w32 n = n) (i : Nat) : w32 (l.getD i 0) = l.getD i 0 := by
  rw [List.getD_eq_getElem?_getD]
  cases hi : l[i]? with
  | none => decide
  | some x => exact h x (List.mem_of_getElem? hi)
/-- the constants outside the world -/
def sLen : List Nat := [6, 6, 4, 4, 4, 4, 1, 6]
def sByt : List (List Int32) := (List.range 8).map fun i => (sB (i + 11)).map Int32.ofInt
def Ext (xa : Nat → Nat) (uv : Value) (X : List Int) (A : Nat → Prop) (U : State) (H : Heap) : Prop :=
  (va_X (xa 0) X.length (fun j => Int32.ofInt (X.getD j 0)) U H ∧ xa 0 < H.size ∧ ¬ A (xa 0) ∧ X.length < 2 ^ 31 ∧ ∀ n ∈ X, w32 n = n) ∧
  vk_S 8 sLen sByt (fun i => xa (i + 1)) (fun i => xa (i + 11)) A U H ∧
  (∀ k j, conS 2 k = some j → ∃ tx, vk_R (kN 2) k tx (xa j) U) ∧
  va_Z "java/lang/String" "COMPACT_STRINGS" "Z" (.int 1) A U H ∧
  (va_Z "jdk/internal/util/Preconditions" "SIOOBE_FORMATTER" "Ljava/util/function/BiFunction;" uv A U H ∧ uv.category = 1) ∧
  ∀ w ∈ wN, va_Nw w U
theorem Ext.kept {xa : Nat → Nat} {uv : Value} {X : List Int} {A : Nat → Prop} {U : State} {H H1 : Heap} (h : Ext xa uv X A U H) (hs : H.size ≤ H1.size) (hq : ∀ a : Nat, a < H.size → ¬ A a → H1[a]? = H[a]?) : Ext xa uv X A U H1 := by
  obtain ⟨⟨h1, h2, h3, h4⟩, h5, h6, h7, ⟨h8, h9⟩, h10⟩ := h
  exact ⟨⟨h1.kept (hq _ h2 h3), Nat.lt_of_lt_of_le h2 hs, h3, h4⟩, h5.kept hq, h6, h7.kept hq, ⟨h8.kept hq, h9⟩, h10⟩
theorem Ext.narrow {xa : Nat → Nat} {uv : Value} {X : List Int} {A B : Nat → Prop} {U : State} {H : Heap} (h : Ext xa uv X A U H) (hAB : ∀ q, B q → A q) : Ext xa uv X B U H := by
  obtain ⟨⟨h1, h2, h3, h4⟩, h5, h6, h7, ⟨h8, h9⟩, h10⟩ := h
  exact ⟨⟨h1, h2, fun q => h3 (hAB _ q), h4⟩, h5.narrow hAB, h6, h7.narrow hAB, ⟨h8.narrow hAB, h9⟩, h10⟩
theorem Ext.warm {xa : Nat → Nat} {uv : Value} {X : List Int} {A : Nat → Prop} {s U : State} {H : Heap} (hW : s.WarmedH U.vm) (h : Ext xa uv X A s H) : Ext xa uv X A U H := by
  obtain ⟨⟨h1, h2, h3, h4⟩, h5, h6, h7, ⟨h8, h9⟩, h10⟩ := h
  refine ⟨⟨h1.moved hW.alike, h2, h3, h4⟩, h5.moved hW.alike, fun k j hk => ?_, h7.moved hW.alike, ⟨h8.moved hW.alike, h9⟩, wN_warm hW h10⟩
  obtain ⟨tx, hr⟩ := h6 k j hk
  exact ⟨tx, hr.warm hW⟩
theorem Ext.same {xa : Nat → Nat} {uv : Value} {X : List Int} {A : Nat → Prop} {u U : State} {H : Heap} (hv : U.vm = u.vm) (h : Ext xa uv X A u H) : Ext xa uv X A U H := by
  have hal : u.vm.Alike U.vm := by rw [hv]; exact Vm.Alike.refl u.vm
  obtain ⟨⟨h1, h2, h3, h4⟩, h5, h6, h7, ⟨h8, h9⟩, h10⟩ := h
  refine ⟨⟨h1.moved hal, h2, h3, h4⟩, h5.moved hal, fun k j hk => ?_, h7.moved hal, ⟨h8.moved hal, h9⟩, fun w hw => ?_⟩
  · obtain ⟨tx, hr⟩ := h6 k j hk
    exact ⟨tx, hr.same hv⟩
  · have h1 := h10 w hw
    have h2 := (List.mem_filter.mp hw).2
    match w, h1, h2 with
    | .fieldLinkNest .., h1, _ => exact va_Nw.same rfl hv.symm h1
    | .methodLinkNest .., h1, _ => exact va_Nw.same rfl hv.symm h1
/-- locals: what is claimed of them -/
def clm (ad xa : Nat → Nat) (uv : Value) (al : List AV) (i : Nat) : List (Nat × Value) := match al[i]? with
  | some (.inl n) => [(i, .int (Int32.ofInt n))]
  | some (.inr (.inl n)) => if al[i + 1]? = some vS then [(i, .long (Int64.ofInt n))] else []
  | some (.inr (.inr (.inl a))) => [(i, .ref (ad a))]
  | some (.inr (.inr (.inr (.inl j)))) => [(i, .ref (xa j))]
  | some (.inr (.inr (.inr (.inr 0)))) => []
  | some (.inr (.inr (.inr (.inr (_ + 1))))) => [(i, uv)]
  | none => []
def lcl (ad xa : Nat → Nat) (uv : Value) (al : List AV) : List (Nat × Value) := (List.range al.length).flatMap (clm ad xa uv al)
theorem clm_fst {ad xa : Nat → Nat} {uv : Value} {al : List AV} {i : Nat} {q : Nat × Value} (h : q ∈ clm ad xa uv al i) : q.1 = i := by
  unfold clm at h
  split at h <;> (try split at h) <;> simp at h <;> (try (rw [h]))
theorem lcl_mem {ad xa : Nat → Nat} {uv : Value} {al : List AV} {q : Nat × Value} : q ∈ lcl ad xa uv al ↔ q ∈ clm ad xa uv al q.1 := by
  unfold lcl
  rw [List.mem_flatMap]
  constructor
  · rintro ⟨i, -, h⟩
    rw [clm_fst h]
    exact h
  · intro h
    refine ⟨q.1, ?_, h⟩
    rw [List.mem_range]
    rcases Nat.lt_or_ge q.1 al.length with z | z
    · exact z
    · unfold clm at h
      rw [List.getElem?_eq_none z] at h
      simp at h
theorem lv_mono {ls : Array Slot} {nL : Nat} {l l' : List (Nat × Value)} (h : lv_has ls nL l) (hl : ∀ q ∈ l', q ∈ l) : lv_has ls nL l' := ⟨h.1, h.2.1, fun q hq => h.2.2 q (hl q hq)⟩
theorem set_vS {al : List AV} {i k : Nat} {x : AV} (hx0 : x ≠ vS) (hi : i < al.length) (h : (al.set i x)[k]? = some vS) : k ≠ i ∧ al[k]? = some vS := by
  rw [List.getElem?_set] at h
  by_cases e : i = k
  · rw [if_pos e, if_pos hi] at h
    exact absurd (Option.some.inj h) hx0
  · rw [if_neg e] at h
    exact ⟨fun z => e z.symm, h⟩
theorem lcl_set {ad xa : Nat → Nat} {uv : Value} (hu : uv.category = 1) {al : List AV} {i : Nat} {x : AV} (hx : ∀ n, x ≠ .inr (.inl n)) (hx0 : x ≠ vS) (hi : i < al.length) : ∀ q ∈ lcl ad xa uv (al.set i x), q ∈ (i, cv ad xa uv x) :: (lcl ad xa uv al).filter (fun q => !(q.1 == i) && !(q.1 + 1 == i && q.2.category == 2)) := by
  intro q hq
  rw [lcl_mem] at hq
  obtain ⟨j, v⟩ := q
  dsimp only at hq
  by_cases hj : j = i
  · subst hj
    unfold clm at hq
    rw [List.getElem?_set, if_pos rfl, if_pos hi] at hq
    refine List.mem_cons.mpr (Or.inl ?_)
    split at hq <;> rename_i he
    · cases he; simpa [cv] using hq
    · cases he; exact absurd rfl (hx _)
    · cases he; simpa [cv] using hq
    · cases he; simpa [cv] using hq
    · cases he; exact absurd rfl hx0
    · cases he; simpa [cv] using hq
    · cases he
  · refine List.mem_cons.mpr (Or.inr (List.mem_filter.mpr ⟨?_, ?_⟩))
    · rw [lcl_mem]
      dsimp only
      unfold clm at hq ⊢
      rw [List.getElem?_set, if_neg (fun e => hj e.symm)] at hq
      split at hq <;> rename_i he <;> (try rw [he])
      · exact hq
      · try dsimp only
        by_cases hs : (al.set i x)[j + 1]? = some vS
        · rw [if_pos hs] at hq
          rw [if_pos (set_vS hx0 hi hs).2]
          exact hq
        · rw [if_neg hs] at hq
          simp at hq
      · exact hq
      · exact hq
      · exact hq
      · exact hq
      · exact hq
    · have hne : (j == i) = false := by simpa using hj
      unfold clm at hq
      rw [List.getElem?_set, if_neg (fun e => hj e.symm)] at hq
      split at hq <;> rename_i he
      · simp only [List.mem_singleton, Prod.mk.injEq] at hq; obtain ⟨-, rfl⟩ := hq; simp [hne, Value.category]
      · by_cases hs : (al.set i x)[j + 1]? = some vS
        · have h4 := (set_vS hx0 hi hs).1
          simp [hne, h4]
        · rw [if_neg hs] at hq
          simp at hq
      · simp only [List.mem_singleton, Prod.mk.injEq] at hq; obtain ⟨-, rfl⟩ := hq; simp [hne, Value.category]
      · simp only [List.mem_singleton, Prod.mk.injEq] at hq; obtain ⟨-, rfl⟩ := hq; simp [hne, Value.category]
      · simp at hq
      · simp only [List.mem_singleton, Prod.mk.injEq] at hq; obtain ⟨-, rfl⟩ := hq; simp [hne, hu]
      · simp at hq
theorem lcl_setL {ad xa : Nat → Nat} {uv : Value} (hu : uv.category = 1) {al : List AV} {i : Nat} {x : Int} (hi : i + 1 < al.length) : ∀ q ∈ lcl ad xa uv ((al.set i (vL x)).set (i + 1) vS), q ∈ (i, Value.long (Int64.ofInt x)) :: (lcl ad xa uv al).filter (fun q => !(q.1 == i) && (!(q.1 == i + 1) && !(q.1 + 1 == i && q.2.category == 2))) := by
  intro q hq
  rw [lcl_mem] at hq
  obtain ⟨j, v⟩ := q
  dsimp only at hq
  have g1 : ∀ k : Nat, ((al.set i (vL x)).set (i + 1) vS)[k]? = if k = i + 1 then some vS else if k = i then some (vL x) else al[k]? := by
    intro k
    rw [List.getElem?_set, List.length_set]
    by_cases h1 : k = i + 1
    · rw [if_pos h1.symm, if_pos h1, if_pos hi]
    · rw [if_neg (fun e => h1 e.symm), if_neg h1, List.getElem?_set]
      by_cases h2 : k = i
      · rw [if_pos h2.symm, if_pos h2, if_pos (by omega)]
      · rw [if_neg (fun e => h2 e.symm), if_neg h2]
  unfold clm at hq
  rw [g1, g1] at hq
  by_cases h1 : j = i + 1
  · rw [if_pos h1] at hq; simp at hq
  · rw [if_neg h1] at hq
    by_cases h2 : j = i
    · subst h2
      rw [if_pos rfl] at hq
      dsimp only at hq
      rw [if_pos rfl, if_pos rfl] at hq
      exact List.mem_cons.mpr (Or.inl (List.mem_singleton.mp hq))
    · rw [if_neg h2] at hq
      have hq2 : (j, v) ∈ clm ad xa uv al j ∧ ¬ (j + 1 = i ∧ v.category = 2) := by
        unfold clm
        split at hq <;> rename_i he <;> (try rw [he])
        · refine ⟨hq, ?_⟩; simp only [List.mem_singleton, Prod.mk.injEq] at hq; obtain ⟨-, rfl⟩ := hq; simp [Value.category]
        · try dsimp only
          have h3 : ¬ j + 1 = i + 1 := by omega
          rw [if_neg h3] at hq
          by_cases h4 : j + 1 = i
          · rw [if_pos h4] at hq; simp at hq
          · rw [if_neg h4] at hq; exact ⟨hq, fun z => h4 z.1⟩
        · refine ⟨hq, ?_⟩; simp only [List.mem_singleton, Prod.mk.injEq] at hq; obtain ⟨-, rfl⟩ := hq; simp [Value.category]
        · refine ⟨hq, ?_⟩; simp only [List.mem_singleton, Prod.mk.injEq] at hq; obtain ⟨-, rfl⟩ := hq; simp [Value.category]
        · simp at hq
        · refine ⟨hq, ?_⟩; simp only [List.mem_singleton, Prod.mk.injEq] at hq; obtain ⟨-, rfl⟩ := hq; simp [hu]
        · simp at hq
      refine List.mem_cons.mpr (Or.inr (List.mem_filter.mpr ⟨lcl_mem.mpr hq2.1, ?_⟩))
      have h5 := hq2.2
      have n1 : (j == i) = false := by simpa using h2
      have n2 : (j == i + 1) = false := by simpa using h1
      rw [show ((j, v) : Nat × Value).1 = j from rfl, n1, n2]
      simp
      by_cases e : j + 1 = i
      · exact Or.inr (fun e2 => h5 ⟨e, e2⟩)
      · exact Or.inl e
def Lr (ad xa : Nat → Nat) (uv : Value) (n : Nat) (al : List AV) (ls : Array Slot) : Prop := lv_has ls n (lcl ad xa uv al) ∧ al.length = n
theorem Lr.at {ad xa : Nat → Nat} {uv : Value} {n : Nat} {al : List AV} {ls : Array Slot} (h : Lr ad xa uv n al ls) {i : Nat} {v : Value} (hc : (i, v) ∈ clm ad xa uv al i) : ls[i]? = some (.val v) := h.1.2.2 (i, v) (lcl_mem.mpr hc)
theorem F0c {m : MethodId} {pc : Nat} {ls : Array Slot} {st : List Value} {v v' : Value} (h : v = v') : F0 m pc ls (v :: st) = F0 m pc ls (v' :: st) := by rw [h]
theorem ck_inv {α : Type} {a b : Nat} {x : Option α} {r : α} (h : ck a b x = some r) : a = b ∧ x = some r := by
  unfold ck at h
  split at h
  · exact ⟨by assumption, h⟩
  · cases h
theorem gI_inv {b : Bool} {x : Option SR} {r : SR} (h : gI b x = some r) : b = true ∧ x = some r := by
  unfold gI at h
  split at h
  · exact ⟨by assumption, h⟩
  · cases h
theorem go_inv {pc : Nat} {al st : List AV} {mem : AM} {r : SR} (h : go pc al st mem = some r) : r = .inl (pc, al, st, mem) := (Option.some.inj h).symm
theorem jm_inv {pc : Nat} {off : Int} {al st : List AV} {mem : AM} {r : SR} (h : jm pc off al st mem = some r) : ∃ t : Nat, (pc : Int) + off = (t : Int) ∧ r = .inl (t, al, st, mem) := by
  unfold jm at h
  split at h
  · rename_i h0
    exact ⟨_, (Int.toNat_of_nonneg h0).symm, go_inv h⟩
  · cases h
theorem p1_inv {st : List AV} {f : Int → List AV → Option SR} {r : SR} (h : p1 st f = some r) : ∃ x st', st = vI x :: st' ∧ f x st' = some r := by
  unfold p1 at h
  split at h
  · exact ⟨_, _, rfl, h⟩
  · cases h
theorem p2_inv {st : List AV} {f : Int → Int → List AV → Option SR} {r : SR} (h : p2 st f = some r) : ∃ y x st', st = vI y :: vI x :: st' ∧ f x y st' = some r := by
  obtain ⟨y, s1, rfl, h1⟩ := p1_inv h
  obtain ⟨x, s2, rfl, h2⟩ := p1_inv h1
  exact ⟨y, x, s2, rfl, h2⟩
theorem pL_inv {st : List AV} {f : Int → List AV → Option SR} {r : SR} (h : pL st f = some r) : ∃ x st', st = vL x :: st' ∧ f x st' = some r := by
  unfold pL at h
  split at h
  · exact ⟨_, _, rfl, h⟩
  · cases h
theorem pL2_inv {st : List AV} {f : Int → Int → List AV → Option SR} {r : SR} (h : pL2 st f = some r) : ∃ y x st', st = vL y :: vL x :: st' ∧ f x y st' = some r := by
  obtain ⟨y, s1, rfl, h1⟩ := pL_inv h
  obtain ⟨x, s2, rfl, h2⟩ := pL_inv h1
  exact ⟨y, x, s2, rfl, h2⟩
theorem pR_inv {st : List AV} {f g : Nat → List AV → Option SR} {r : SR} (h : pR st f g = some r) : (∃ a st', st = vR a :: st' ∧ f a st' = some r) ∨ ∃ j st', st = vX j :: st' ∧ g j st' = some r := by
  unfold pR at h
  split at h
  · exact Or.inl ⟨_, _, rfl, h⟩
  · exact Or.inr ⟨_, _, rfl, h⟩
  · cases h
theorem c1_inv {st : List AV} {f : AV → List AV → Option SR} {r : SR} (h : c1 st f = some r) : ∃ v st', st = v :: st' ∧ (∀ n, v ≠ .inr (.inl n)) ∧ f v st' = some r := by
  unfold c1 at h
  split at h
  · exact ⟨_, _, rfl, (fun _ z => nomatch z), h⟩
  · exact ⟨_, _, rfl, (fun _ z => nomatch z), h⟩
  · cases h
theorem lI_inv {al : List AV} {i : Nat} {f : Int → Option SR} {r : SR} (h : lI al i f = some r) : ∃ x, al[i]? = some (vI x) ∧ f x = some r := by
  unfold lI at h
  split at h
  · exact ⟨_, by assumption, h⟩
  · cases h
theorem lL_inv {al : List AV} {i : Nat} {f : Int → Option SR} {r : SR} (h : lL al i f = some r) : ∃ x, al[i]? = some (vL x) ∧ al[i + 1]? = some vS ∧ f x = some r := by
  unfold lL at h
  split at h
  · exact ⟨_, by assumption, by assumption, h⟩
  · cases h
theorem lA_inv {al : List AV} {i : Nat} {f : AV → Option SR} {r : SR} (h : lA al i f = some r) : (∃ a, al[i]? = some (vR a) ∧ f (vR a) = some r) ∨ ∃ j, al[i]? = some (vX j) ∧ f (vX j) = some r := by
  unfold lA at h
  split at h
  · exact Or.inl ⟨_, by assumption, h⟩
  · exact Or.inr ⟨_, by assumption, h⟩
  · cases h
theorem sT_inv {al : List AV} {i : Nat} {v : AV} {f : List AV → Option SR} {r : SR} (h : sT al i v f = some r) : i < al.length ∧ f (al.set i v) = some r := by
  unfold sT at h
  split at h
  · exact ⟨by assumption, h⟩
  · cases h
theorem sL_inv {al : List AV} {i : Nat} {x : Int} {f : List AV → Option SR} {r : SR} (h : sL al i x f = some r) : i + 1 < al.length ∧ f ((al.set i (vL x)).set (i + 1) vS) = some r := by
  unfold sL at h
  split at h
  · exact ⟨by assumption, h⟩
  · cases h
theorem bind_inv {α : Type} {o : Option α} {f : α → Option SR} {r : SR} (h : o.bind f = some r) : ∃ v, o = some v ∧ f v = some r := by
  cases o with
  | none => cases h
  | some v => exact ⟨v, rfl, h⟩
theorem fget_inv {mem : AM} {a c k : Nat} {v : AV} (h : fget mem a c k = some v) : ∃ fs, mem a = .inl (c, fs) ∧ fs[k]? = some v := by
  unfold fget at h
  split at h
  · rename_i x hx
    split at h
    · rename_i hc
      exact ⟨x.2, by rw [hx, ← hc], h⟩
    · cases h
  · cases h
theorem fput_inv {mem mem' : AM} {a c k : Nat} {v : AV} (h : fput mem a c k v = some mem') : ∃ fs, mem a = .inl (c, fs) ∧ k < fs.length ∧ mem' = mset mem a (.inl (c, fs.set k v)) := by
  unfold fput at h
  split at h
  · rename_i x hx
    split at h
    · rename_i hc
      exact ⟨x.2, by rw [hx, ← hc.1], hc.2, (Option.some.inj h).symm⟩
    · cases h
  · cases h
theorem aget_inv {mem : AM} {a : Nat} {i : Int} {v : AV} (h : aget mem a i = some v) : ∃ l, mem a = .inr l ∧ 0 ≤ i ∧ i < l.length ∧ v = vI (l.getD i.toNat 0) := by
  unfold aget at h
  split at h
  · cases h
  · rename_i l hl
    split at h
    · rename_i hc
      exact ⟨l, hl, hc.1, hc.2, (Option.some.inj h).symm⟩
    · cases h
theorem aput_inv {mem mem' : AM} {a : Nat} {i x : Int} (h : aput mem a i x = some mem') : ∃ l, mem a = .inr l ∧ 0 ≤ i ∧ i < l.length ∧ mem' = mset mem a (.inr (l.set i.toNat x)) := by
  unfold aput at h
  split at h
  · cases h
  · rename_i l hl
    split at h
    · rename_i hc
      exact ⟨l, hl, hc.1, hc.2, (Option.some.inj h).symm⟩
    · cases h
theorem alen_inv {mem : AM} {a : Nat} {v : AV} (h : alen mem a = some v) : ∃ l, mem a = .inr l ∧ v = vI (w32 l.length) := by
  unfold alen at h
  split at h
  · cases h
  · rename_i l hl
    exact ⟨l, hl, (Option.some.inj h).symm⟩
theorem acpy_inv {mem mem' : AM} {s d : Nat} {sp dp n : Int} (h : acpy mem s sp d dp n = some mem') : ∃ f g, mem s = .inr f ∧ mem d = .inr g ∧ 0 ≤ sp ∧ 0 ≤ dp ∧ 0 ≤ n ∧ sp + n ≤ f.length ∧ dp + n ≤ g.length ∧ mem' = mset mem d (.inr (cpy f g sp.toNat dp.toNat n.toNat)) := by
  unfold acpy at h
  split at h
  · rename_i f g hf hg
    split at h
    · rename_i hc
      exact ⟨f, g, hf, hg, hc.1, hc.2.1, hc.2.2.1, hc.2.2.2.1, hc.2.2.2.2, (Option.some.inj h).symm⟩
    · cases h
  · cases h
theorem cpy_at (f g : List Int) (sp dp n : Nat) (h : dp + n ≤ g.length) (k : Nat) : (cpy f g sp dp n).getD k 0 = if dp ≤ k ∧ k < dp + n then f.getD (sp + (k - dp)) 0 else g.getD k 0 := by
  unfold cpy
  rw [List.getD_eq_getElem?_getD, List.getElem?_map]
  rcases Nat.lt_or_ge k g.length with q | q
  · rw [List.getElem?_range q]
    rfl
  · rw [List.getElem?_eq_none (by simpa using q), if_neg (by omega), List.getD_eq_getElem?_getD, List.getElem?_eq_none q]
    rfl
theorem set_at (l : List Int) {i : Nat} (hi : i < l.length) (x : Int) (k : Nat) : (l.set i x).getD k 0 = if k = i then x else l.getD k 0 := by
  rw [List.getD_eq_getElem?_getD, List.getElem?_set, List.getD_eq_getElem?_getD]
  by_cases h : i = k
  · subst h; rw [if_pos rfl, if_pos rfl, if_pos hi]; rfl
  · rw [if_neg h, if_neg (fun e => h e.symm)]

