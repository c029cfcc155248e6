/-! A STEP OF THE ABSTRACT MACHINE IS A WALK OF THE MACHINE -/
section ST
variable {p : Program} {l : Launch} {e : Env} {R : Room} {s : State} {m : MethodId} {args : Array Value} {below : List Frame} {meth : Method} {c : Code} {cells slots : Nat} {Q : State → Prop} {mi : MI} {X : List Int} {ad xa : Nat → Nat} {uv : Value} {cA : ClassId} {dC : Nat → ClassId} {dI : Nat → Nat → Nat} {A : Nat → Prop} {pc : Nat} {al st : List AV} {mem : AM} {len i : Nat} {r : Nat × List AV × List AV × AM} {n : Int}
def Cx (p : Program) (s : State) (m : MethodId) (args : Array Value) (c : Code) (R : Room) (mi : MI) (X : List Int) (ad xa : Nat → Nat) (uv : Value) (cA : ClassId) (dC : Nat → ClassId) (dI : Nat → Nat → Nat) (A : Nat → Prop) (cells slots : Nat) : Prop :=
  p.tables.exec = Jvm.exec ∧ c.code = mB mi ∧ c.maxLocals = mN mi ∧ s.vm.findClass (kN (mK mi)) = some m.cls ∧ (∀ w ∈ wT, w.before args s = true) ∧ va_K (dC, dI) vwCl [(cA, .int)] s ∧ Ext xa uv X A s s.heap ∧ (∀ i, i < 72 → A (ad i)) ∧ (∀ i j, i < 72 → j < 72 → ad i = ad j → i = j) ∧ mF mi ≤ R.frames ∧ mW mi ≤ R.locals ∧ cells ≤ R.cells ∧ slots ≤ R.slots
def Nx (p : Program) (l : Launch) (e : Env) (R : Room) (s : State) (m : MethodId) (args : Array Value) (below : List Frame) (meth : Method) (c : Code) (cells slots : Nat) (Q : State → Prop) (mi : MI) (ad xa : Nat → Nat) (uv : Value) (cA : ClassId) (dC : Nat → ClassId) (dI : Nat → Nat → Nat) (A : Nat → Prop) (r : Nat × List AV × List AV × AM) : Prop :=
  ∀ (H : Heap) (locs : List Loc) (ls : Array Slot), va_P (dC, dI) vwCl (cws ad xa uv cA r.2.2.2) H → va_S A s.heap H locs → Lr ad xa uv (mN mi) r.2.1 ls → okS r.2.1 r.2.2.1 r.2.2.2 → W p l e R s m args below meth c H locs cells slots Q (F0 m r.1 ls (r.2.2.1.map (cv ad xa uv)))
theorem clm_I {x : Int} (hl : al[i]? = some (vI x)) : (i, Value.int (Int32.ofInt x)) ∈ clm ad xa uv al i := by unfold clm; rw [hl]; exact List.mem_singleton_self _
theorem clm_L {x : Int} (hl : al[i]? = some (vL x)) (h2 : al[i + 1]? = some vS) : (i, Value.long (Int64.ofInt x)) ∈ clm ad xa uv al i := by unfold clm; rw [hl]; dsimp only; rw [if_pos h2]; exact List.mem_singleton_self _
theorem clm_R {x : Nat} (hl : al[i]? = some (vR x)) : (i, Value.ref (ad x)) ∈ clm ad xa uv al i := by unfold clm; rw [hl]; exact List.mem_singleton_self _
theorem clm_X {x : Nat} (hl : al[i]? = some (vX x)) : (i, Value.ref (xa x)) ∈ clm ad xa uv al i := by unfold clm; rw [hl]; exact List.mem_singleton_self _
theorem cv_cat (hu : uv.category = 1) {v : AV} (h : ∀ n, v ≠ .inr (.inl n)) : (cv ad xa uv v).category = 1 := by
  match v, h with
  | .inl _, _ => rfl
  | .inr (.inl n), h => exact absurd rfl (h n)
  | .inr (.inr (.inl _)), _ => rfl
  | .inr (.inr (.inr (.inl _))), _ => rfl
  | .inr (.inr (.inr (.inr 0))), _ => rfl
  | .inr (.inr (.inr (.inr (_ + 1)))), _ => exact hu
theorem conS_2 {c k j : Nat} (h : conS c k = some j) : c = 2 := by
  unfold conS at h
  split at h <;> first | rfl | cases h
theorem vw_ne {c : Nat} {x : vw_C} (h : vwCl[c]? = some x) : c ≠ 999 := by
  rintro rfl
  cases h
theorem vw_ty {c : Nat} {C : String} {T : u_T} {N : Nat} (h : vwCl[c]? = some (C, T, N)) : ∃ ty0 : Nat → FieldType, (∀ k, k < N → parseFieldDescriptor (T k).2.2.1 = some (ty0 k)) ∧ ∀ a, a < N → ∀ b, b < N → a ≠ b → (T a).2.1 ≠ (T b).2.1 := by
  match c, h with
  | 0, h => cases h; exact ⟨tyX0, tyX0_ok, nmX0⟩
  | 1, h => cases h; exact ⟨tyX1, tyX1_ok, nmX1⟩
  | 2, h => cases h; exact ⟨tyX2, tyX2_ok, nmX2⟩
  | 3, h => cases h; exact ⟨tyX3, tyX3_ok, nmX3⟩
  | 4, h => cases h; exact ⟨tyX4, tyX4_ok, nmX4⟩
  | 5, h => cases h; exact ⟨tyX5, tyX5_ok, nmX5⟩
  | c + 6, h => simp [vwCl] at h
theorem fty_1 {c k : Nat} {C : String} {T : u_T} {N : Nat} (h : vwCl[c]? = some (C, T, N)) (hf : fty c k = 1) : (T k).2.2.2 = false ∧ (T k).2.2.1 = "I" := by
  unfold fty at hf
  rw [h] at hf
  dsimp only at hf
  split at hf
  · cases hf
  · rename_i h1
    split at hf
    · exact ⟨by simpa using h1, by assumption⟩
    · split at hf <;> cases hf
theorem fty_2 {c k : Nat} {C : String} {T : u_T} {N : Nat} (h : vwCl[c]? = some (C, T, N)) (hf : fty c k = 2) : (T k).2.2.2 = false ∧ (T k).2.2.1 = "Z" := by
  unfold fty at hf
  rw [h] at hf
  dsimp only at hf
  split at hf
  · cases hf
  · rename_i h1
    split at hf
    · cases hf
    · split at hf
      · exact ⟨by simpa using h1, by assumption⟩
      · cases hf
theorem fok_inv {t : Nat} {x : Int} (h : fok t (vI x) = true) : t = 1 ∨ (t = 2 ∧ (x = 0 ∨ x = 1)) := by
  unfold fok at h
  split at h
  · exact Or.inl rfl
  · rename_i h1
    cases h1
    exact Or.inr ⟨rfl, by simpa using h⟩
  · cases h
theorem nar_z {x : Int} (h : x = 0 ∨ x = 1) : narrow .boolean (.int (Int32.ofInt x)) = .int (Int32.ofInt x) ∧ fits .boolean (.int (Int32.ofInt x)) = true := by
  rcases h with rfl | rfl <;> exact ⟨by decide, by decide⟩
theorem mx_lt {x y : Int} (hx : w32 x = x) (hy : w32 y = y) (a b : Int) : (if Int32.ofInt x < Int32.ofInt y then Int32.ofInt a else Int32.ofInt b) = Int32.ofInt (if x < y then a else b) := by
  by_cases h : x < y
  · rw [if_pos h, if_pos ((c_lt hx hy).mpr h)]
  · rw [if_neg h, if_neg (fun z => h ((c_lt hx hy).mp z))]
theorem cat_le (v : Value) : v.category ≤ 2 := by rcases lv_cat v with h | h <;> omega
theorem cat_sum : ∀ (l : List Value) (n : Nat), l.length ≤ n → (l.map fun v => v.category).sum ≤ 2 * n
  | [], n, _ => Nat.zero_le _
  | v :: l, n, h => by
    have h1 := cat_sum l (n - 1) (by simp at h; omega)
    have h2 := cat_le v
    simp at h
    simp only [List.map_cons, List.sum_cons]
    omega
theorem sB_len {i : Nat} (h : i < 8) : (sB (i + 11)).length = sLen.getD i 0 := by
  match i, h with
  | 0, _ => rfl
  | 1, _ => rfl
  | 2, _ => rfl
  | 3, _ => rfl
  | 4, _ => rfl
  | 5, _ => rfl
  | 6, _ => rfl
  | 7, _ => rfl
  | i + 8, h => omega
theorem sB_ok : ∀ i, i < 8 → ∀ n ∈ sB (i + 11), w32 n = n := by decide
theorem sB_at {i n : Nat} (h : i < 8) : (sByt.getD i []).getD n 0 = Int32.ofInt ((sB (i + 11)).getD n 0) := by
  have h1 : sByt.getD i [] = (sB (i + 11)).map Int32.ofInt := by
    unfold sByt
    rw [List.getD_eq_getElem?_getD, List.getElem?_map, List.getElem?_range h]
    rfl
  rw [h1, List.getD_eq_getElem?_getD, List.getElem?_map, List.getD_eq_getElem?_getD]
  cases (sB (i + 11))[n]? with
  | none => rfl
  | some x => rfl
theorem arr_setA (cA : ClassId) (l : List Int) {i x : Int} (h0 : 0 ≤ i) (h1 : i < l.length) : (Sum.inl (cA, (l.length, .inl (upd (fun j => Int32.ofInt (l.getD j 0)) i.toNat (Int32.ofInt x)))) : va_E) = ccell ad xa uv cA (.inr (l.set i.toNat x)) := by
  unfold ccell
  have hi : i.toNat < l.length := by omega
  have hf : upd (fun j => Int32.ofInt (l.getD j 0)) i.toNat (Int32.ofInt x) = fun j => Int32.ofInt ((l.set i.toNat x).getD j 0) := by
    funext j
    rw [set_at l hi x j]
    unfold upd
    split <;> rfl
  dsimp only
  rw [hf, List.length_set]
theorem arr_cpy (cA : ClassId) (f g : List Int) {sp dp n : Nat} (h : dp + n ≤ g.length) : (Sum.inl (cA, (g.length, .inl (va_cpy (fun j => Int32.ofInt (f.getD j 0)) (fun j => Int32.ofInt (g.getD j 0)) sp dp n))) : va_E) = ccell ad xa uv cA (.inr (cpy f g sp dp n)) := by
  unfold ccell
  have hf : va_cpy (fun j => Int32.ofInt (f.getD j 0)) (fun j => Int32.ofInt (g.getD j 0)) sp dp n = fun j => Int32.ofInt ((cpy f g sp dp n).getD j 0) := by
    funext j
    rw [cpy_at f g sp dp n h j]
    unfold va_cpy
    split <;> rfl
  dsimp only
  rw [hf, show (cpy f g sp dp n).length = g.length by simp [cpy]]
theorem okI_cpy {f g : List Int} (hf : ∀ n ∈ f, w32 n = n) (hg : ∀ n ∈ g, w32 n = n) (sp dp n : Nat) : ∀ k ∈ cpy f g sp dp n, w32 k = k := by
  intro k hk
  unfold cpy at hk
  obtain ⟨j, -, rfl⟩ := List.mem_map.mp hk
  split
  · exact okI_at hf _
  · exact okI_at hg _
theorem okI_set {l : List Int} (h : ∀ n ∈ l, w32 n = n) {i : Nat} {x : Int} (hx : w32 x = x) : ∀ n ∈ l.set i x, w32 n = n := by
  intro v hv
  rcases List.mem_or_eq_of_mem_set hv with q | q
  · exact h v q
  · rw [q]; exact hx
theorem br_inv {b : Bool} {off : Int} {q : SR} (h : br b pc off al st mem = some q) : ∃ t : Nat, (pc : Int) + off = (t : Int) ∧ q = .inl (if b = true then t else pc + 3, al, st, mem) := by
  unfold br at h
  split at h
  · rename_i h0
    refine ⟨_, (Int.toNat_of_nonneg h0).symm, ?_⟩
    split at h
    · rename_i hb; rw [if_pos hb]; exact go_inv h
    · rename_i hb; rw [if_neg hb]; exact go_inv h
  · cases h

theorem st_iconst  (C : Cx p s m args c R mi X ad xa uv cA dC dI A cells slots) (hd : decode (mB mi) pc = .ok (.iconst n, len)) (h : stepJ X mi pc al st mem (.iconst n) len = some (.inl r)) (kk : Nx p l e R s m args below meth c cells slots Q mi ad xa uv cA dC dI A r) : Nx p l e R s m args below meth c cells slots Q mi ad xa uv cA dC dI A (pc, al, st, mem) := by
  obtain ⟨hx, hb, hml, hown, hts, hK, hE, hAd, hI, hF, hW, hcc, hss⟩ := C
  have hu : uv.category = 1 := hE.2.2.2.2.1.2
  replace h := ck_inv h
  obtain ⟨rfl, h⟩ := h
  obtain rfl := Sum.inl.inj (go_inv h)
  intro H locs ls hP hS hL hO
  refine lv_iconst hx hb hd (i32_w n).symm ?_
  exact kk H locs ls hP hS hL ⟨hO.1, ok_cons hO.2.1 (w32_w n), hO.2.2⟩
theorem st_bipush  (C : Cx p s m args c R mi X ad xa uv cA dC dI A cells slots) (hd : decode (mB mi) pc = .ok (.bipush n, len)) (h : stepJ X mi pc al st mem (.bipush n) len = some (.inl r)) (kk : Nx p l e R s m args below meth c cells slots Q mi ad xa uv cA dC dI A r) : Nx p l e R s m args below meth c cells slots Q mi ad xa uv cA dC dI A (pc, al, st, mem) := by
  obtain ⟨hx, hb, hml, hown, hts, hK, hE, hAd, hI, hF, hW, hcc, hss⟩ := C
  have hu : uv.category = 1 := hE.2.2.2.2.1.2
  replace h := ck_inv h
  obtain ⟨rfl, h⟩ := h
  obtain rfl := Sum.inl.inj (go_inv h)
  intro H locs ls hP hS hL hO
  refine lv_bipush hx hb hd (Int32.ofInt_toInt _).symm ?_
  exact kk H locs ls hP hS hL ⟨hO.1, ok_cons hO.2.1 (w32_t _), hO.2.2⟩
theorem st_sipush  (C : Cx p s m args c R mi X ad xa uv cA dC dI A cells slots) (hd : decode (mB mi) pc = .ok (.sipush n, len)) (h : stepJ X mi pc al st mem (.sipush n) len = some (.inl r)) (kk : Nx p l e R s m args below meth c cells slots Q mi ad xa uv cA dC dI A r) : Nx p l e R s m args below meth c cells slots Q mi ad xa uv cA dC dI A (pc, al, st, mem) := by
  obtain ⟨hx, hb, hml, hown, hts, hK, hE, hAd, hI, hF, hW, hcc, hss⟩ := C
  have hu : uv.category = 1 := hE.2.2.2.2.1.2
  replace h := ck_inv h
  obtain ⟨rfl, h⟩ := h
  obtain rfl := Sum.inl.inj (go_inv h)
  intro H locs ls hP hS hL hO
  refine lv_sipush hx hb hd (Int32.ofInt_toInt _).symm ?_
  exact kk H locs ls hP hS hL ⟨hO.1, ok_cons hO.2.1 (w32_t _), hO.2.2⟩
theorem st_lconst {n2 : Fin 2} (C : Cx p s m args c R mi X ad xa uv cA dC dI A cells slots) (hd : decode (mB mi) pc = .ok (.lconst n2, len)) (h : stepJ X mi pc al st mem (.lconst n2) len = some (.inl r)) (kk : Nx p l e R s m args below meth c cells slots Q mi ad xa uv cA dC dI A r) : Nx p l e R s m args below meth c cells slots Q mi ad xa uv cA dC dI A (pc, al, st, mem) := by
  obtain ⟨hx, hb, hml, hown, hts, hK, hE, hAd, hI, hF, hW, hcc, hss⟩ := C
  have hu : uv.category = 1 := hE.2.2.2.2.1.2
  replace h := ck_inv h
  obtain ⟨rfl, h⟩ := h
  obtain rfl := Sum.inl.inj (go_inv h)
  intro H locs ls hP hS hL hO
  refine lv_lconst hx hb hd (by exact Int64.ofInt_eq_ofNat.symm) ?_
  exact kk H locs ls hP hS hL ⟨hO.1, ok_cons hO.2.1 (w64_id (by omega) (by omega)), hO.2.2⟩
theorem st_ldc  (C : Cx p s m args c R mi X ad xa uv cA dC dI A cells slots) (hd : decode (mB mi) pc = .ok (.ldc i, len)) (h : stepJ X mi pc al st mem (.ldc i) len = some (.inl r)) (kk : Nx p l e R s m args below meth c cells slots Q mi ad xa uv cA dC dI A r) : Nx p l e R s m args below meth c cells slots Q mi ad xa uv cA dC dI A (pc, al, st, mem) := by
  obtain ⟨hx, hb, hml, hown, hts, hK, hE, hAd, hI, hF, hW, hcc, hss⟩ := C
  have hu : uv.category = 1 := hE.2.2.2.2.1.2
  replace h := ck_inv h
  obtain ⟨rfl, h⟩ := h
  split at h
  · rename_i n hc
    have hq := hts _ (conI_ok hc)
    obtain rfl := Sum.inl.inj (go_inv h)
    intro H locs ls hP hS hL hO
    refine lv_ldc hx hb hown hq hd ?_
    exact W.eq (F0c (congrArg Value.int (i32_w n).symm)) (kk H locs ls hP hS hL ⟨hO.1, ok_cons hO.2.1 (w32_w n), hO.2.2⟩)
  · replace h := bind_inv h
    obtain ⟨j, hj, h⟩ := h
    have h2 := conS_2 hj
    rw [h2] at hj hown
    obtain ⟨tx, hr⟩ := hE.2.2.1 i j hj
    obtain rfl := Sum.inl.inj (go_inv h)
    intro H locs ls hP hS hL hO
    refine va_ldcS hx hb hown hr hd ?_
    exact kk H locs ls hP hS hL ⟨hO.1, ok_cons hO.2.1 trivial, hO.2.2⟩
theorem st_ldc_w  (C : Cx p s m args c R mi X ad xa uv cA dC dI A cells slots) (hd : decode (mB mi) pc = .ok (.ldc_w i, len)) (h : stepJ X mi pc al st mem (.ldc_w i) len = some (.inl r)) (kk : Nx p l e R s m args below meth c cells slots Q mi ad xa uv cA dC dI A r) : Nx p l e R s m args below meth c cells slots Q mi ad xa uv cA dC dI A (pc, al, st, mem) := by
  obtain ⟨hx, hb, hml, hown, hts, hK, hE, hAd, hI, hF, hW, hcc, hss⟩ := C
  have hu : uv.category = 1 := hE.2.2.2.2.1.2
  replace h := ck_inv h
  obtain ⟨rfl, h⟩ := h
  replace h := bind_inv h
  obtain ⟨n, hc, h⟩ := h
  have hq := hts _ (conI_ok hc)
  obtain rfl := Sum.inl.inj (go_inv h)
  intro H locs ls hP hS hL hO
  refine lv_ldcw hx hb hown hq hd ?_
  exact W.eq (F0c (congrArg Value.int (i32_w n).symm)) (kk H locs ls hP hS hL ⟨hO.1, ok_cons hO.2.1 (w32_w n), hO.2.2⟩)
theorem st_ldc2_w  (C : Cx p s m args c R mi X ad xa uv cA dC dI A cells slots) (hd : decode (mB mi) pc = .ok (.ldc2_w i, len)) (h : stepJ X mi pc al st mem (.ldc2_w i) len = some (.inl r)) (kk : Nx p l e R s m args below meth c cells slots Q mi ad xa uv cA dC dI A r) : Nx p l e R s m args below meth c cells slots Q mi ad xa uv cA dC dI A (pc, al, st, mem) := by
  obtain ⟨hx, hb, hml, hown, hts, hK, hE, hAd, hI, hF, hW, hcc, hss⟩ := C
  have hu : uv.category = 1 := hE.2.2.2.2.1.2
  replace h := ck_inv h
  obtain ⟨rfl, h⟩ := h
  replace h := bind_inv h
  obtain ⟨n, hc, h⟩ := h
  have hq := hts _ (conL_ok hc)
  obtain rfl := Sum.inl.inj (go_inv h)
  intro H locs ls hP hS hL hO
  refine lv_ldc2 hx hb hown hq hd ?_
  exact W.eq (F0c (congrArg Value.long (i64_w n).symm)) (kk H locs ls hP hS hL ⟨hO.1, ok_cons hO.2.1 (w64_w n), hO.2.2⟩)
theorem st_iload_n {k4 : Fin 4} (C : Cx p s m args c R mi X ad xa uv cA dC dI A cells slots) (hd : decode (mB mi) pc = .ok (.iload_n k4, len)) (h : stepJ X mi pc al st mem (.iload_n k4) len = some (.inl r)) (kk : Nx p l e R s m args below meth c cells slots Q mi ad xa uv cA dC dI A r) : Nx p l e R s m args below meth c cells slots Q mi ad xa uv cA dC dI A (pc, al, st, mem) := by
  obtain ⟨hx, hb, hml, hown, hts, hK, hE, hAd, hI, hF, hW, hcc, hss⟩ := C
  have hu : uv.category = 1 := hE.2.2.2.2.1.2
  replace h := ck_inv h
  obtain ⟨rfl, h⟩ := h
  replace h := lI_inv h
  obtain ⟨x, hl, h⟩ := h
  obtain rfl := Sum.inl.inj (go_inv h)
  intro H locs ls hP hS hL hO
  refine lv_iload_n hx hb hd rfl (hL.at (clm_I hl)) ?_
  exact kk H locs ls hP hS hL ⟨hO.1, ok_cons hO.2.1 (ok_at hO.1 hl), hO.2.2⟩
theorem st_lload_n {k4 : Fin 4} (C : Cx p s m args c R mi X ad xa uv cA dC dI A cells slots) (hd : decode (mB mi) pc = .ok (.lload_n k4, len)) (h : stepJ X mi pc al st mem (.lload_n k4) len = some (.inl r)) (kk : Nx p l e R s m args below meth c cells slots Q mi ad xa uv cA dC dI A r) : Nx p l e R s m args below meth c cells slots Q mi ad xa uv cA dC dI A (pc, al, st, mem) := by
  obtain ⟨hx, hb, hml, hown, hts, hK, hE, hAd, hI, hF, hW, hcc, hss⟩ := C
  have hu : uv.category = 1 := hE.2.2.2.2.1.2
  replace h := ck_inv h
  obtain ⟨rfl, h⟩ := h
  replace h := lL_inv h
  obtain ⟨x, hl, hl2, h⟩ := h
  obtain rfl := Sum.inl.inj (go_inv h)
  intro H locs ls hP hS hL hO
  refine lv_lload_n hx hb hd rfl (hL.at (clm_L hl hl2)) ?_
  exact kk H locs ls hP hS hL ⟨hO.1, ok_cons hO.2.1 (ok_at hO.1 hl), hO.2.2⟩
theorem st_aload_n {k4 : Fin 4} (C : Cx p s m args c R mi X ad xa uv cA dC dI A cells slots) (hd : decode (mB mi) pc = .ok (.aload_n k4, len)) (h : stepJ X mi pc al st mem (.aload_n k4) len = some (.inl r)) (kk : Nx p l e R s m args below meth c cells slots Q mi ad xa uv cA dC dI A r) : Nx p l e R s m args below meth c cells slots Q mi ad xa uv cA dC dI A (pc, al, st, mem) := by
  obtain ⟨hx, hb, hml, hown, hts, hK, hE, hAd, hI, hF, hW, hcc, hss⟩ := C
  have hu : uv.category = 1 := hE.2.2.2.2.1.2
  replace h := ck_inv h
  obtain ⟨rfl, h⟩ := h
  replace h := lA_inv h
  rcases h with ⟨x, hl, h⟩ | ⟨x, hl, h⟩
  · obtain rfl := Sum.inl.inj (go_inv h)
    intro H locs ls hP hS hL hO
    refine lv_aload_n hx hb hd rfl (hL.at (clm_R hl)) ?_
    exact kk H locs ls hP hS hL ⟨hO.1, ok_cons hO.2.1 trivial, hO.2.2⟩
  · obtain rfl := Sum.inl.inj (go_inv h)
    intro H locs ls hP hS hL hO
    refine lv_aload_n hx hb hd rfl (hL.at (clm_X hl)) ?_
    exact kk H locs ls hP hS hL ⟨hO.1, ok_cons hO.2.1 trivial, hO.2.2⟩
theorem st_istore_n {k4 : Fin 4} (C : Cx p s m args c R mi X ad xa uv cA dC dI A cells slots) (hd : decode (mB mi) pc = .ok (.istore_n k4, len)) (h : stepJ X mi pc al st mem (.istore_n k4) len = some (.inl r)) (kk : Nx p l e R s m args below meth c cells slots Q mi ad xa uv cA dC dI A r) : Nx p l e R s m args below meth c cells slots Q mi ad xa uv cA dC dI A (pc, al, st, mem) := by
  obtain ⟨hx, hb, hml, hown, hts, hK, hE, hAd, hI, hF, hW, hcc, hss⟩ := C
  have hu : uv.category = 1 := hE.2.2.2.2.1.2
  replace h := ck_inv h
  obtain ⟨rfl, h⟩ := h
  replace h := p1_inv h
  obtain ⟨x, st', rfl, h⟩ := h
  replace h := sT_inv h
  obtain ⟨hi, h⟩ := h
  obtain rfl := Sum.inl.inj (go_inv h)
  intro H locs ls hP hS hL hO
  refine lv_istore_n hx hb hd rfl hL.1 (by rw [← hL.2]; exact hi) rfl (fun ls' hl' => ?_)
  exact kk H locs ls' hP hS ⟨lv_mono hl' (lcl_set hu (fun _ z => nomatch z) (fun z => nomatch z) hi), by rw [List.length_set]; exact hL.2⟩ ⟨ok_set hO.1 (ok_hd hO.2.1), ok_tl hO.2.1, hO.2.2⟩
theorem st_astore_n {k4 : Fin 4} (C : Cx p s m args c R mi X ad xa uv cA dC dI A cells slots) (hd : decode (mB mi) pc = .ok (.astore_n k4, len)) (h : stepJ X mi pc al st mem (.astore_n k4) len = some (.inl r)) (kk : Nx p l e R s m args below meth c cells slots Q mi ad xa uv cA dC dI A r) : Nx p l e R s m args below meth c cells slots Q mi ad xa uv cA dC dI A (pc, al, st, mem) := by
  obtain ⟨hx, hb, hml, hown, hts, hK, hE, hAd, hI, hF, hW, hcc, hss⟩ := C
  have hu : uv.category = 1 := hE.2.2.2.2.1.2
  replace h := ck_inv h
  obtain ⟨rfl, h⟩ := h
  replace h := pR_inv h
  rcases h with ⟨x, st', rfl, h⟩ | ⟨x, st', rfl, h⟩
  · replace h := sT_inv h
    obtain ⟨hi, h⟩ := h
    obtain rfl := Sum.inl.inj (go_inv h)
    intro H locs ls hP hS hL hO
    refine lv_astore_n hx hb hd rfl hL.1 (by rw [← hL.2]; exact hi) rfl (fun ls' hl' => ?_)
    exact kk H locs ls' hP hS ⟨lv_mono hl' (lcl_set hu (fun _ z => nomatch z) (fun z => nomatch z) hi), by rw [List.length_set]; exact hL.2⟩ ⟨ok_set hO.1 (ok_hd hO.2.1), ok_tl hO.2.1, hO.2.2⟩
  · replace h := sT_inv h
    obtain ⟨hi, h⟩ := h
    obtain rfl := Sum.inl.inj (go_inv h)
    intro H locs ls hP hS hL hO
    refine lv_astore_n hx hb hd rfl hL.1 (by rw [← hL.2]; exact hi) rfl (fun ls' hl' => ?_)
    exact kk H locs ls' hP hS ⟨lv_mono hl' (lcl_set hu (fun _ z => nomatch z) (fun z => nomatch z) hi), by rw [List.length_set]; exact hL.2⟩ ⟨ok_set hO.1 (ok_hd hO.2.1), ok_tl hO.2.1, hO.2.2⟩
theorem st_iload  (C : Cx p s m args c R mi X ad xa uv cA dC dI A cells slots) (hd : decode (mB mi) pc = .ok (.iload i, len)) (h : stepJ X mi pc al st mem (.iload i) len = some (.inl r)) (kk : Nx p l e R s m args below meth c cells slots Q mi ad xa uv cA dC dI A r) : Nx p l e R s m args below meth c cells slots Q mi ad xa uv cA dC dI A (pc, al, st, mem) := by
  obtain ⟨hx, hb, hml, hown, hts, hK, hE, hAd, hI, hF, hW, hcc, hss⟩ := C
  have hu : uv.category = 1 := hE.2.2.2.2.1.2
  replace h := ck_inv h
  obtain ⟨rfl, h⟩ := h
  replace h := lI_inv h
  obtain ⟨x, hl, h⟩ := h
  obtain rfl := Sum.inl.inj (go_inv h)
  intro H locs ls hP hS hL hO
  refine lv_iload hx hb hd (hL.at (clm_I hl)) ?_
  exact kk H locs ls hP hS hL ⟨hO.1, ok_cons hO.2.1 (ok_at hO.1 hl), hO.2.2⟩
theorem st_lload  (C : Cx p s m args c R mi X ad xa uv cA dC dI A cells slots) (hd : decode (mB mi) pc = .ok (.lload i, len)) (h : stepJ X mi pc al st mem (.lload i) len = some (.inl r)) (kk : Nx p l e R s m args below meth c cells slots Q mi ad xa uv cA dC dI A r) : Nx p l e R s m args below meth c cells slots Q mi ad xa uv cA dC dI A (pc, al, st, mem) := by
  obtain ⟨hx, hb, hml, hown, hts, hK, hE, hAd, hI, hF, hW, hcc, hss⟩ := C
  have hu : uv.category = 1 := hE.2.2.2.2.1.2
  replace h := ck_inv h
  obtain ⟨rfl, h⟩ := h
  replace h := lL_inv h
  obtain ⟨x, hl, hl2, h⟩ := h
  obtain rfl := Sum.inl.inj (go_inv h)
  intro H locs ls hP hS hL hO
  refine lv_lload hx hb hd (hL.at (clm_L hl hl2)) ?_
  exact kk H locs ls hP hS hL ⟨hO.1, ok_cons hO.2.1 (ok_at hO.1 hl), hO.2.2⟩
theorem st_aload  (C : Cx p s m args c R mi X ad xa uv cA dC dI A cells slots) (hd : decode (mB mi) pc = .ok (.aload i, len)) (h : stepJ X mi pc al st mem (.aload i) len = some (.inl r)) (kk : Nx p l e R s m args below meth c cells slots Q mi ad xa uv cA dC dI A r) : Nx p l e R s m args below meth c cells slots Q mi ad xa uv cA dC dI A (pc, al, st, mem) := by
  obtain ⟨hx, hb, hml, hown, hts, hK, hE, hAd, hI, hF, hW, hcc, hss⟩ := C
  have hu : uv.category = 1 := hE.2.2.2.2.1.2
  replace h := ck_inv h
  obtain ⟨rfl, h⟩ := h
  replace h := lA_inv h
  rcases h with ⟨x, hl, h⟩ | ⟨x, hl, h⟩
  · obtain rfl := Sum.inl.inj (go_inv h)
    intro H locs ls hP hS hL hO
    refine lv_aload hx hb hd (hL.at (clm_R hl)) ?_
    exact kk H locs ls hP hS hL ⟨hO.1, ok_cons hO.2.1 trivial, hO.2.2⟩
  · obtain rfl := Sum.inl.inj (go_inv h)
    intro H locs ls hP hS hL hO
    refine lv_aload hx hb hd (hL.at (clm_X hl)) ?_
    exact kk H locs ls hP hS hL ⟨hO.1, ok_cons hO.2.1 trivial, hO.2.2⟩
theorem st_istore  (C : Cx p s m args c R mi X ad xa uv cA dC dI A cells slots) (hd : decode (mB mi) pc = .ok (.istore i, len)) (h : stepJ X mi pc al st mem (.istore i) len = some (.inl r)) (kk : Nx p l e R s m args below meth c cells slots Q mi ad xa uv cA dC dI A r) : Nx p l e R s m args below meth c cells slots Q mi ad xa uv cA dC dI A (pc, al, st, mem) := by
  obtain ⟨hx, hb, hml, hown, hts, hK, hE, hAd, hI, hF, hW, hcc, hss⟩ := C
  have hu : uv.category = 1 := hE.2.2.2.2.1.2
  replace h := ck_inv h
  obtain ⟨rfl, h⟩ := h
  replace h := p1_inv h
  obtain ⟨x, st', rfl, h⟩ := h
  replace h := sT_inv h
  obtain ⟨hi, h⟩ := h
  obtain rfl := Sum.inl.inj (go_inv h)
  intro H locs ls hP hS hL hO
  refine lv_istore hx hb hd hL.1 (by rw [← hL.2]; exact hi) rfl (fun ls' hl' => ?_)
  exact kk H locs ls' hP hS ⟨lv_mono hl' (lcl_set hu (fun _ z => nomatch z) (fun z => nomatch z) hi), by rw [List.length_set]; exact hL.2⟩ ⟨ok_set hO.1 (ok_hd hO.2.1), ok_tl hO.2.1, hO.2.2⟩
theorem st_astore  (C : Cx p s m args c R mi X ad xa uv cA dC dI A cells slots) (hd : decode (mB mi) pc = .ok (.astore i, len)) (h : stepJ X mi pc al st mem (.astore i) len = some (.inl r)) (kk : Nx p l e R s m args below meth c cells slots Q mi ad xa uv cA dC dI A r) : Nx p l e R s m args below meth c cells slots Q mi ad xa uv cA dC dI A (pc, al, st, mem) := by
  obtain ⟨hx, hb, hml, hown, hts, hK, hE, hAd, hI, hF, hW, hcc, hss⟩ := C
  have hu : uv.category = 1 := hE.2.2.2.2.1.2
  replace h := ck_inv h
  obtain ⟨rfl, h⟩ := h
  replace h := pR_inv h
  rcases h with ⟨x, st', rfl, h⟩ | ⟨x, st', rfl, h⟩
  · replace h := sT_inv h
    obtain ⟨hi, h⟩ := h
    obtain rfl := Sum.inl.inj (go_inv h)
    intro H locs ls hP hS hL hO
    refine lv_astore hx hb hd hL.1 (by rw [← hL.2]; exact hi) rfl (fun ls' hl' => ?_)
    exact kk H locs ls' hP hS ⟨lv_mono hl' (lcl_set hu (fun _ z => nomatch z) (fun z => nomatch z) hi), by rw [List.length_set]; exact hL.2⟩ ⟨ok_set hO.1 (ok_hd hO.2.1), ok_tl hO.2.1, hO.2.2⟩
  · replace h := sT_inv h
    obtain ⟨hi, h⟩ := h
    obtain rfl := Sum.inl.inj (go_inv h)
    intro H locs ls hP hS hL hO
    refine lv_astore hx hb hd hL.1 (by rw [← hL.2]; exact hi) rfl (fun ls' hl' => ?_)
    exact kk H locs ls' hP hS ⟨lv_mono hl' (lcl_set hu (fun _ z => nomatch z) (fun z => nomatch z) hi), by rw [List.length_set]; exact hL.2⟩ ⟨ok_set hO.1 (ok_hd hO.2.1), ok_tl hO.2.1, hO.2.2⟩
theorem st_lstore  (C : Cx p s m args c R mi X ad xa uv cA dC dI A cells slots) (hd : decode (mB mi) pc = .ok (.lstore i, len)) (h : stepJ X mi pc al st mem (.lstore i) len = some (.inl r)) (kk : Nx p l e R s m args below meth c cells slots Q mi ad xa uv cA dC dI A r) : Nx p l e R s m args below meth c cells slots Q mi ad xa uv cA dC dI A (pc, al, st, mem) := by
  obtain ⟨hx, hb, hml, hown, hts, hK, hE, hAd, hI, hF, hW, hcc, hss⟩ := C
  have hu : uv.category = 1 := hE.2.2.2.2.1.2
  replace h := ck_inv h
  obtain ⟨rfl, h⟩ := h
  replace h := pL_inv h
  obtain ⟨x, st', rfl, h⟩ := h
  replace h := sL_inv h
  obtain ⟨hi, h⟩ := h
  obtain rfl := Sum.inl.inj (go_inv h)
  intro H locs ls hP hS hL hO
  refine lv_lstore hx hb hd hL.1 (by rw [← hL.2]; exact hi) rfl (fun ls' hl' => ?_)
  exact kk H locs ls' hP hS ⟨lv_mono hl' (lcl_setL hu hi), by rw [List.length_set, List.length_set]; exact hL.2⟩ ⟨ok_set (ok_set hO.1 (ok_hd hO.2.1)) trivial, ok_tl hO.2.1, hO.2.2⟩
theorem st_iinc  (C : Cx p s m args c R mi X ad xa uv cA dC dI A cells slots) (hd : decode (mB mi) pc = .ok (.iinc i n, len)) (h : stepJ X mi pc al st mem (.iinc i n) len = some (.inl r)) (kk : Nx p l e R s m args below meth c cells slots Q mi ad xa uv cA dC dI A r) : Nx p l e R s m args below meth c cells slots Q mi ad xa uv cA dC dI A (pc, al, st, mem) := by
  obtain ⟨hx, hb, hml, hown, hts, hK, hE, hAd, hI, hF, hW, hcc, hss⟩ := C
  have hu : uv.category = 1 := hE.2.2.2.2.1.2
  replace h := ck_inv h
  obtain ⟨rfl, h⟩ := h
  replace h := lI_inv h
  obtain ⟨x, hl, h⟩ := h
  replace h := sT_inv h
  obtain ⟨hi, h⟩ := h
  obtain rfl := Sum.inl.inj (go_inv h)
  intro H locs ls hP hS hL hO
  obtain ⟨j, hj⟩ := List.getElem?_of_mem (lcl_mem.mpr (clm_I (ad := ad) (xa := xa) (uv := uv) hl))
  refine lv_iinc hx hb hd hL.1 hj (c_add x n).symm (by rw [← hL.2]; exact hi) rfl (fun ls' hl' => ?_)
  exact kk H locs ls' hP hS ⟨lv_mono hl' (lcl_set hu (fun _ z => nomatch z) (fun z => nomatch z) hi), by rw [List.length_set]; exact hL.2⟩ ⟨ok_set hO.1 (w32_w _), hO.2.1, hO.2.2⟩
theorem st_iadd  (C : Cx p s m args c R mi X ad xa uv cA dC dI A cells slots) (hd : decode (mB mi) pc = .ok (.iadd, len)) (h : stepJ X mi pc al st mem (.iadd) len = some (.inl r)) (kk : Nx p l e R s m args below meth c cells slots Q mi ad xa uv cA dC dI A r) : Nx p l e R s m args below meth c cells slots Q mi ad xa uv cA dC dI A (pc, al, st, mem) := by
  obtain ⟨hx, hb, hml, hown, hts, hK, hE, hAd, hI, hF, hW, hcc, hss⟩ := C
  have hu : uv.category = 1 := hE.2.2.2.2.1.2
  replace h := ck_inv h
  obtain ⟨rfl, h⟩ := h
  replace h := p2_inv h
  obtain ⟨y, x, st', rfl, h⟩ := h
  obtain rfl := Sum.inl.inj (go_inv h)
  intro H locs ls hP hS hL hO
  refine lv_iadd hx hb hd ?_
  exact W.eq (F0c (congrArg Value.int (c_add x y).symm)) (kk H locs ls hP hS hL ⟨hO.1, ok_cons (ok_tl (ok_tl hO.2.1)) (w32_w _), hO.2.2⟩)
theorem st_isub  (C : Cx p s m args c R mi X ad xa uv cA dC dI A cells slots) (hd : decode (mB mi) pc = .ok (.isub, len)) (h : stepJ X mi pc al st mem (.isub) len = some (.inl r)) (kk : Nx p l e R s m args below meth c cells slots Q mi ad xa uv cA dC dI A r) : Nx p l e R s m args below meth c cells slots Q mi ad xa uv cA dC dI A (pc, al, st, mem) := by
  obtain ⟨hx, hb, hml, hown, hts, hK, hE, hAd, hI, hF, hW, hcc, hss⟩ := C
  have hu : uv.category = 1 := hE.2.2.2.2.1.2
  replace h := ck_inv h
  obtain ⟨rfl, h⟩ := h
  replace h := p2_inv h
  obtain ⟨y, x, st', rfl, h⟩ := h
  obtain rfl := Sum.inl.inj (go_inv h)
  intro H locs ls hP hS hL hO
  refine lv_isub hx hb hd ?_
  exact W.eq (F0c (congrArg Value.int (c_sub x y).symm)) (kk H locs ls hP hS hL ⟨hO.1, ok_cons (ok_tl (ok_tl hO.2.1)) (w32_w _), hO.2.2⟩)
theorem st_imul  (C : Cx p s m args c R mi X ad xa uv cA dC dI A cells slots) (hd : decode (mB mi) pc = .ok (.imul, len)) (h : stepJ X mi pc al st mem (.imul) len = some (.inl r)) (kk : Nx p l e R s m args below meth c cells slots Q mi ad xa uv cA dC dI A r) : Nx p l e R s m args below meth c cells slots Q mi ad xa uv cA dC dI A (pc, al, st, mem) := by
  obtain ⟨hx, hb, hml, hown, hts, hK, hE, hAd, hI, hF, hW, hcc, hss⟩ := C
  have hu : uv.category = 1 := hE.2.2.2.2.1.2
  replace h := ck_inv h
  obtain ⟨rfl, h⟩ := h
  replace h := p2_inv h
  obtain ⟨y, x, st', rfl, h⟩ := h
  obtain rfl := Sum.inl.inj (go_inv h)
  intro H locs ls hP hS hL hO
  refine lv_imul hx hb hd ?_
  exact W.eq (F0c (congrArg Value.int (c_mul x y).symm)) (kk H locs ls hP hS hL ⟨hO.1, ok_cons (ok_tl (ok_tl hO.2.1)) (w32_w _), hO.2.2⟩)
theorem st_iand  (C : Cx p s m args c R mi X ad xa uv cA dC dI A cells slots) (hd : decode (mB mi) pc = .ok (.iand, len)) (h : stepJ X mi pc al st mem (.iand) len = some (.inl r)) (kk : Nx p l e R s m args below meth c cells slots Q mi ad xa uv cA dC dI A r) : Nx p l e R s m args below meth c cells slots Q mi ad xa uv cA dC dI A (pc, al, st, mem) := by
  obtain ⟨hx, hb, hml, hown, hts, hK, hE, hAd, hI, hF, hW, hcc, hss⟩ := C
  have hu : uv.category = 1 := hE.2.2.2.2.1.2
  replace h := ck_inv h
  obtain ⟨rfl, h⟩ := h
  replace h := p2_inv h
  obtain ⟨y, x, st', rfl, h⟩ := h
  obtain rfl := Sum.inl.inj (go_inv h)
  intro H locs ls hP hS hL hO
  refine lv_iand hx hb hd ?_
  exact W.eq (F0c (congrArg Value.int (Int32.ofInt_toInt _).symm)) (kk H locs ls hP hS hL ⟨hO.1, ok_cons (ok_tl (ok_tl hO.2.1)) (w32_t _), hO.2.2⟩)
theorem st_ior  (C : Cx p s m args c R mi X ad xa uv cA dC dI A cells slots) (hd : decode (mB mi) pc = .ok (.ior, len)) (h : stepJ X mi pc al st mem (.ior) len = some (.inl r)) (kk : Nx p l e R s m args below meth c cells slots Q mi ad xa uv cA dC dI A r) : Nx p l e R s m args below meth c cells slots Q mi ad xa uv cA dC dI A (pc, al, st, mem) := by
  obtain ⟨hx, hb, hml, hown, hts, hK, hE, hAd, hI, hF, hW, hcc, hss⟩ := C
  have hu : uv.category = 1 := hE.2.2.2.2.1.2
  replace h := ck_inv h
  obtain ⟨rfl, h⟩ := h
  replace h := p2_inv h
  obtain ⟨y, x, st', rfl, h⟩ := h
  obtain rfl := Sum.inl.inj (go_inv h)
  intro H locs ls hP hS hL hO
  refine lv_ior hx hb hd ?_
  exact W.eq (F0c (congrArg Value.int (Int32.ofInt_toInt _).symm)) (kk H locs ls hP hS hL ⟨hO.1, ok_cons (ok_tl (ok_tl hO.2.1)) (w32_t _), hO.2.2⟩)
theorem st_ixor  (C : Cx p s m args c R mi X ad xa uv cA dC dI A cells slots) (hd : decode (mB mi) pc = .ok (.ixor, len)) (h : stepJ X mi pc al st mem (.ixor) len = some (.inl r)) (kk : Nx p l e R s m args below meth c cells slots Q mi ad xa uv cA dC dI A r) : Nx p l e R s m args below meth c cells slots Q mi ad xa uv cA dC dI A (pc, al, st, mem) := by
  obtain ⟨hx, hb, hml, hown, hts, hK, hE, hAd, hI, hF, hW, hcc, hss⟩ := C
  have hu : uv.category = 1 := hE.2.2.2.2.1.2
  replace h := ck_inv h
  obtain ⟨rfl, h⟩ := h
  replace h := p2_inv h
  obtain ⟨y, x, st', rfl, h⟩ := h
  obtain rfl := Sum.inl.inj (go_inv h)
  intro H locs ls hP hS hL hO
  refine lv_ixor hx hb hd ?_
  exact W.eq (F0c (congrArg Value.int (Int32.ofInt_toInt _).symm)) (kk H locs ls hP hS hL ⟨hO.1, ok_cons (ok_tl (ok_tl hO.2.1)) (w32_t _), hO.2.2⟩)
theorem st_ishl  (C : Cx p s m args c R mi X ad xa uv cA dC dI A cells slots) (hd : decode (mB mi) pc = .ok (.ishl, len)) (h : stepJ X mi pc al st mem (.ishl) len = some (.inl r)) (kk : Nx p l e R s m args below meth c cells slots Q mi ad xa uv cA dC dI A r) : Nx p l e R s m args below meth c cells slots Q mi ad xa uv cA dC dI A (pc, al, st, mem) := by
  obtain ⟨hx, hb, hml, hown, hts, hK, hE, hAd, hI, hF, hW, hcc, hss⟩ := C
  have hu : uv.category = 1 := hE.2.2.2.2.1.2
  replace h := ck_inv h
  obtain ⟨rfl, h⟩ := h
  replace h := p2_inv h
  obtain ⟨y, x, st', rfl, h⟩ := h
  obtain rfl := Sum.inl.inj (go_inv h)
  intro H locs ls hP hS hL hO
  refine lv_ishl hx hb hd ?_
  exact W.eq (F0c (congrArg Value.int (Int32.ofInt_toInt _).symm)) (kk H locs ls hP hS hL ⟨hO.1, ok_cons (ok_tl (ok_tl hO.2.1)) (w32_t _), hO.2.2⟩)
theorem st_ishr  (C : Cx p s m args c R mi X ad xa uv cA dC dI A cells slots) (hd : decode (mB mi) pc = .ok (.ishr, len)) (h : stepJ X mi pc al st mem (.ishr) len = some (.inl r)) (kk : Nx p l e R s m args below meth c cells slots Q mi ad xa uv cA dC dI A r) : Nx p l e R s m args below meth c cells slots Q mi ad xa uv cA dC dI A (pc, al, st, mem) := by
  obtain ⟨hx, hb, hml, hown, hts, hK, hE, hAd, hI, hF, hW, hcc, hss⟩ := C
  have hu : uv.category = 1 := hE.2.2.2.2.1.2
  replace h := ck_inv h
  obtain ⟨rfl, h⟩ := h
  replace h := p2_inv h
  obtain ⟨y, x, st', rfl, h⟩ := h
  obtain rfl := Sum.inl.inj (go_inv h)
  intro H locs ls hP hS hL hO
  refine lv_ishr hx hb hd ?_
  exact W.eq (F0c (congrArg Value.int (Int32.ofInt_toInt _).symm)) (kk H locs ls hP hS hL ⟨hO.1, ok_cons (ok_tl (ok_tl hO.2.1)) (w32_t _), hO.2.2⟩)
theorem st_iushr  (C : Cx p s m args c R mi X ad xa uv cA dC dI A cells slots) (hd : decode (mB mi) pc = .ok (.iushr, len)) (h : stepJ X mi pc al st mem (.iushr) len = some (.inl r)) (kk : Nx p l e R s m args below meth c cells slots Q mi ad xa uv cA dC dI A r) : Nx p l e R s m args below meth c cells slots Q mi ad xa uv cA dC dI A (pc, al, st, mem) := by
  obtain ⟨hx, hb, hml, hown, hts, hK, hE, hAd, hI, hF, hW, hcc, hss⟩ := C
  have hu : uv.category = 1 := hE.2.2.2.2.1.2
  replace h := ck_inv h
  obtain ⟨rfl, h⟩ := h
  replace h := p2_inv h
  obtain ⟨y, x, st', rfl, h⟩ := h
  obtain rfl := Sum.inl.inj (go_inv h)
  intro H locs ls hP hS hL hO
  refine lv_iushr hx hb hd (Int32.ofInt_toInt _).symm ?_
  exact kk H locs ls hP hS hL ⟨hO.1, ok_cons (ok_tl (ok_tl hO.2.1)) (w32_t _), hO.2.2⟩
theorem st_idiv  (C : Cx p s m args c R mi X ad xa uv cA dC dI A cells slots) (hd : decode (mB mi) pc = .ok (.idiv, len)) (h : stepJ X mi pc al st mem (.idiv) len = some (.inl r)) (kk : Nx p l e R s m args below meth c cells slots Q mi ad xa uv cA dC dI A r) : Nx p l e R s m args below meth c cells slots Q mi ad xa uv cA dC dI A (pc, al, st, mem) := by
  obtain ⟨hx, hb, hml, hown, hts, hK, hE, hAd, hI, hF, hW, hcc, hss⟩ := C
  have hu : uv.category = 1 := hE.2.2.2.2.1.2
  replace h := ck_inv h
  obtain ⟨rfl, h⟩ := h
  replace h := p2_inv h
  obtain ⟨y, x, st', rfl, h⟩ := h
  replace h := gI_inv h
  obtain ⟨hy, h⟩ := h
  have hy : ¬ y = 0 := by simpa using hy
  obtain rfl := Sum.inl.inj (go_inv h)
  intro H locs ls hP hS hL hO
  refine lv_idiv hx hb hd (fun z => hy ((c_eq (y := 0) (ok_hd hO.2.1) (by decide)).mp z)) ?_
  exact W.eq (F0c (congrArg Value.int (c_div (ok_hd (ok_tl hO.2.1)) (ok_hd hO.2.1)).symm)) (kk H locs ls hP hS hL ⟨hO.1, ok_cons (ok_tl (ok_tl hO.2.1)) (w32_w _), hO.2.2⟩)
theorem st_irem  (C : Cx p s m args c R mi X ad xa uv cA dC dI A cells slots) (hd : decode (mB mi) pc = .ok (.irem, len)) (h : stepJ X mi pc al st mem (.irem) len = some (.inl r)) (kk : Nx p l e R s m args below meth c cells slots Q mi ad xa uv cA dC dI A r) : Nx p l e R s m args below meth c cells slots Q mi ad xa uv cA dC dI A (pc, al, st, mem) := by
  obtain ⟨hx, hb, hml, hown, hts, hK, hE, hAd, hI, hF, hW, hcc, hss⟩ := C
  have hu : uv.category = 1 := hE.2.2.2.2.1.2
  replace h := ck_inv h
  obtain ⟨rfl, h⟩ := h
  replace h := p2_inv h
  obtain ⟨y, x, st', rfl, h⟩ := h
  replace h := gI_inv h
  obtain ⟨hy, h⟩ := h
  have hy : ¬ y = 0 := by simpa using hy
  obtain rfl := Sum.inl.inj (go_inv h)
  intro H locs ls hP hS hL hO
  refine lv_irem hx hb hd (fun z => hy ((c_eq (y := 0) (ok_hd hO.2.1) (by decide)).mp z)) ?_
  exact W.eq (F0c (congrArg Value.int (c_rem (ok_hd (ok_tl hO.2.1)) (ok_hd hO.2.1)).symm)) (kk H locs ls hP hS hL ⟨hO.1, ok_cons (ok_tl (ok_tl hO.2.1)) (w32_w _), hO.2.2⟩)
theorem st_ineg  (C : Cx p s m args c R mi X ad xa uv cA dC dI A cells slots) (hd : decode (mB mi) pc = .ok (.ineg, len)) (h : stepJ X mi pc al st mem (.ineg) len = some (.inl r)) (kk : Nx p l e R s m args below meth c cells slots Q mi ad xa uv cA dC dI A r) : Nx p l e R s m args below meth c cells slots Q mi ad xa uv cA dC dI A (pc, al, st, mem) := by
  obtain ⟨hx, hb, hml, hown, hts, hK, hE, hAd, hI, hF, hW, hcc, hss⟩ := C
  have hu : uv.category = 1 := hE.2.2.2.2.1.2
  replace h := ck_inv h
  obtain ⟨rfl, h⟩ := h
  replace h := p1_inv h
  obtain ⟨x, st', rfl, h⟩ := h
  obtain rfl := Sum.inl.inj (go_inv h)
  intro H locs ls hP hS hL hO
  refine lv_ineg hx hb hd ?_
  exact W.eq (F0c (congrArg Value.int (c_neg x).symm)) (kk H locs ls hP hS hL ⟨hO.1, ok_cons (ok_tl hO.2.1) (w32_w _), hO.2.2⟩)
theorem st_i2c  (C : Cx p s m args c R mi X ad xa uv cA dC dI A cells slots) (hd : decode (mB mi) pc = .ok (.i2c, len)) (h : stepJ X mi pc al st mem (.i2c) len = some (.inl r)) (kk : Nx p l e R s m args below meth c cells slots Q mi ad xa uv cA dC dI A r) : Nx p l e R s m args below meth c cells slots Q mi ad xa uv cA dC dI A (pc, al, st, mem) := by
  obtain ⟨hx, hb, hml, hown, hts, hK, hE, hAd, hI, hF, hW, hcc, hss⟩ := C
  have hu : uv.category = 1 := hE.2.2.2.2.1.2
  replace h := ck_inv h
  obtain ⟨rfl, h⟩ := h
  replace h := p1_inv h
  obtain ⟨x, st', rfl, h⟩ := h
  obtain rfl := Sum.inl.inj (go_inv h)
  intro H locs ls hP hS hL hO
  refine lv_i2c hx hb hd (Int32.ofInt_toInt _).symm ?_
  exact kk H locs ls hP hS hL ⟨hO.1, ok_cons (ok_tl hO.2.1) (w32_t _), hO.2.2⟩
theorem st_i2b  (C : Cx p s m args c R mi X ad xa uv cA dC dI A cells slots) (hd : decode (mB mi) pc = .ok (.i2b, len)) (h : stepJ X mi pc al st mem (.i2b) len = some (.inl r)) (kk : Nx p l e R s m args below meth c cells slots Q mi ad xa uv cA dC dI A r) : Nx p l e R s m args below meth c cells slots Q mi ad xa uv cA dC dI A (pc, al, st, mem) := by
  obtain ⟨hx, hb, hml, hown, hts, hK, hE, hAd, hI, hF, hW, hcc, hss⟩ := C
  have hu : uv.category = 1 := hE.2.2.2.2.1.2
  replace h := ck_inv h
  obtain ⟨rfl, h⟩ := h
  replace h := p1_inv h
  obtain ⟨x, st', rfl, h⟩ := h
  obtain rfl := Sum.inl.inj (go_inv h)
  intro H locs ls hP hS hL hO
  refine lv_i2b hx hb hd (Int32.ofInt_toInt _).symm ?_
  exact kk H locs ls hP hS hL ⟨hO.1, ok_cons (ok_tl hO.2.1) (w32_t _), hO.2.2⟩
theorem st_i2l  (C : Cx p s m args c R mi X ad xa uv cA dC dI A cells slots) (hd : decode (mB mi) pc = .ok (.i2l, len)) (h : stepJ X mi pc al st mem (.i2l) len = some (.inl r)) (kk : Nx p l e R s m args below meth c cells slots Q mi ad xa uv cA dC dI A r) : Nx p l e R s m args below meth c cells slots Q mi ad xa uv cA dC dI A (pc, al, st, mem) := by
  obtain ⟨hx, hb, hml, hown, hts, hK, hE, hAd, hI, hF, hW, hcc, hss⟩ := C
  have hu : uv.category = 1 := hE.2.2.2.2.1.2
  replace h := ck_inv h
  obtain ⟨rfl, h⟩ := h
  replace h := p1_inv h
  obtain ⟨x, st', rfl, h⟩ := h
  obtain rfl := Sum.inl.inj (go_inv h)
  intro H locs ls hP hS hL hO
  refine lv_i2l hx hb hd (c_i2l (ok_hd hO.2.1)) ?_
  exact kk H locs ls hP hS hL ⟨hO.1, ok_cons (ok_tl hO.2.1) (w64_of32 (ok_hd hO.2.1)), hO.2.2⟩
theorem st_ladd  (C : Cx p s m args c R mi X ad xa uv cA dC dI A cells slots) (hd : decode (mB mi) pc = .ok (.ladd, len)) (h : stepJ X mi pc al st mem (.ladd) len = some (.inl r)) (kk : Nx p l e R s m args below meth c cells slots Q mi ad xa uv cA dC dI A r) : Nx p l e R s m args below meth c cells slots Q mi ad xa uv cA dC dI A (pc, al, st, mem) := by
  obtain ⟨hx, hb, hml, hown, hts, hK, hE, hAd, hI, hF, hW, hcc, hss⟩ := C
  have hu : uv.category = 1 := hE.2.2.2.2.1.2
  replace h := ck_inv h
  obtain ⟨rfl, h⟩ := h
  replace h := pL2_inv h
  obtain ⟨y, x, st', rfl, h⟩ := h
  obtain rfl := Sum.inl.inj (go_inv h)
  intro H locs ls hP hS hL hO
  refine lv_ladd hx hb hd ?_
  exact W.eq (F0c (congrArg Value.long (l_add x y).symm)) (kk H locs ls hP hS hL ⟨hO.1, ok_cons (ok_tl (ok_tl hO.2.1)) (w64_w _), hO.2.2⟩)
theorem st_lsub  (C : Cx p s m args c R mi X ad xa uv cA dC dI A cells slots) (hd : decode (mB mi) pc = .ok (.lsub, len)) (h : stepJ X mi pc al st mem (.lsub) len = some (.inl r)) (kk : Nx p l e R s m args below meth c cells slots Q mi ad xa uv cA dC dI A r) : Nx p l e R s m args below meth c cells slots Q mi ad xa uv cA dC dI A (pc, al, st, mem) := by
  obtain ⟨hx, hb, hml, hown, hts, hK, hE, hAd, hI, hF, hW, hcc, hss⟩ := C
  have hu : uv.category = 1 := hE.2.2.2.2.1.2
  replace h := ck_inv h
  obtain ⟨rfl, h⟩ := h
  replace h := pL2_inv h
  obtain ⟨y, x, st', rfl, h⟩ := h
  obtain rfl := Sum.inl.inj (go_inv h)
  intro H locs ls hP hS hL hO
  refine lv_lsub hx hb hd ?_
  exact W.eq (F0c (congrArg Value.long (l_sub x y).symm)) (kk H locs ls hP hS hL ⟨hO.1, ok_cons (ok_tl (ok_tl hO.2.1)) (w64_w _), hO.2.2⟩)
theorem st_lmul  (C : Cx p s m args c R mi X ad xa uv cA dC dI A cells slots) (hd : decode (mB mi) pc = .ok (.lmul, len)) (h : stepJ X mi pc al st mem (.lmul) len = some (.inl r)) (kk : Nx p l e R s m args below meth c cells slots Q mi ad xa uv cA dC dI A r) : Nx p l e R s m args below meth c cells slots Q mi ad xa uv cA dC dI A (pc, al, st, mem) := by
  obtain ⟨hx, hb, hml, hown, hts, hK, hE, hAd, hI, hF, hW, hcc, hss⟩ := C
  have hu : uv.category = 1 := hE.2.2.2.2.1.2
  replace h := ck_inv h
  obtain ⟨rfl, h⟩ := h
  replace h := pL2_inv h
  obtain ⟨y, x, st', rfl, h⟩ := h
  obtain rfl := Sum.inl.inj (go_inv h)
  intro H locs ls hP hS hL hO
  refine lv_lmul hx hb hd ?_
  exact W.eq (F0c (congrArg Value.long (l_mul x y).symm)) (kk H locs ls hP hS hL ⟨hO.1, ok_cons (ok_tl (ok_tl hO.2.1)) (w64_w _), hO.2.2⟩)
theorem st_ldiv  (C : Cx p s m args c R mi X ad xa uv cA dC dI A cells slots) (hd : decode (mB mi) pc = .ok (.ldiv, len)) (h : stepJ X mi pc al st mem (.ldiv) len = some (.inl r)) (kk : Nx p l e R s m args below meth c cells slots Q mi ad xa uv cA dC dI A r) : Nx p l e R s m args below meth c cells slots Q mi ad xa uv cA dC dI A (pc, al, st, mem) := by
  obtain ⟨hx, hb, hml, hown, hts, hK, hE, hAd, hI, hF, hW, hcc, hss⟩ := C
  have hu : uv.category = 1 := hE.2.2.2.2.1.2
  replace h := ck_inv h
  obtain ⟨rfl, h⟩ := h
  replace h := pL2_inv h
  obtain ⟨y, x, st', rfl, h⟩ := h
  replace h := gI_inv h
  obtain ⟨hy, h⟩ := h
  have hy : ¬ y = 0 := by simpa using hy
  obtain rfl := Sum.inl.inj (go_inv h)
  intro H locs ls hP hS hL hO
  refine lv_ldiv hx hb hd (fun z => hy ((l_eq (y := 0) (ok_hd hO.2.1) (by decide)).mp z)) ?_
  exact W.eq (F0c (congrArg Value.long (l_div (ok_hd (ok_tl hO.2.1)) (ok_hd hO.2.1)).symm)) (kk H locs ls hP hS hL ⟨hO.1, ok_cons (ok_tl (ok_tl hO.2.1)) (w64_w _), hO.2.2⟩)
theorem st_lrem  (C : Cx p s m args c R mi X ad xa uv cA dC dI A cells slots) (hd : decode (mB mi) pc = .ok (.lrem, len)) (h : stepJ X mi pc al st mem (.lrem) len = some (.inl r)) (kk : Nx p l e R s m args below meth c cells slots Q mi ad xa uv cA dC dI A r) : Nx p l e R s m args below meth c cells slots Q mi ad xa uv cA dC dI A (pc, al, st, mem) := by
  obtain ⟨hx, hb, hml, hown, hts, hK, hE, hAd, hI, hF, hW, hcc, hss⟩ := C
  have hu : uv.category = 1 := hE.2.2.2.2.1.2
  replace h := ck_inv h
  obtain ⟨rfl, h⟩ := h
  replace h := pL2_inv h
  obtain ⟨y, x, st', rfl, h⟩ := h
  replace h := gI_inv h
  obtain ⟨hy, h⟩ := h
  have hy : ¬ y = 0 := by simpa using hy
  obtain rfl := Sum.inl.inj (go_inv h)
  intro H locs ls hP hS hL hO
  refine lv_lrem hx hb hd (fun z => hy ((l_eq (y := 0) (ok_hd hO.2.1) (by decide)).mp z)) ?_
  exact W.eq (F0c (congrArg Value.long (l_rem (ok_hd (ok_tl hO.2.1)) (ok_hd hO.2.1)).symm)) (kk H locs ls hP hS hL ⟨hO.1, ok_cons (ok_tl (ok_tl hO.2.1)) (w64_w _), hO.2.2⟩)
theorem st_lcmp  (C : Cx p s m args c R mi X ad xa uv cA dC dI A cells slots) (hd : decode (mB mi) pc = .ok (.lcmp, len)) (h : stepJ X mi pc al st mem (.lcmp) len = some (.inl r)) (kk : Nx p l e R s m args below meth c cells slots Q mi ad xa uv cA dC dI A r) : Nx p l e R s m args below meth c cells slots Q mi ad xa uv cA dC dI A (pc, al, st, mem) := by
  obtain ⟨hx, hb, hml, hown, hts, hK, hE, hAd, hI, hF, hW, hcc, hss⟩ := C
  have hu : uv.category = 1 := hE.2.2.2.2.1.2
  replace h := ck_inv h
  obtain ⟨rfl, h⟩ := h
  replace h := pL2_inv h
  obtain ⟨y, x, st', rfl, h⟩ := h
  obtain rfl := Sum.inl.inj (go_inv h)
  intro H locs ls hP hS hL hO
  refine W.lcmp hx hb hd ?_
  refine W.eq (F0c (congrArg Value.int (l_cmp (ok_hd (ok_tl hO.2.1)) (ok_hd hO.2.1)))) (kk H locs ls hP hS hL ⟨hO.1, ok_cons (ok_tl (ok_tl hO.2.1)) ?_, hO.2.2⟩)
  show w32 (lcmp x y) = lcmp x y
  unfold lcmp
  split
  · decide
  · split <;> decide
theorem st_dup  (C : Cx p s m args c R mi X ad xa uv cA dC dI A cells slots) (hd : decode (mB mi) pc = .ok (.dup, len)) (h : stepJ X mi pc al st mem (.dup) len = some (.inl r)) (kk : Nx p l e R s m args below meth c cells slots Q mi ad xa uv cA dC dI A r) : Nx p l e R s m args below meth c cells slots Q mi ad xa uv cA dC dI A (pc, al, st, mem) := by
  obtain ⟨hx, hb, hml, hown, hts, hK, hE, hAd, hI, hF, hW, hcc, hss⟩ := C
  have hu : uv.category = 1 := hE.2.2.2.2.1.2
  replace h := ck_inv h
  obtain ⟨rfl, h⟩ := h
  replace h := c1_inv h
  obtain ⟨v, st', rfl, hv, h⟩ := h
  obtain rfl := Sum.inl.inj (go_inv h)
  intro H locs ls hP hS hL hO
  refine lv_dup hx hb hd (cv_cat hu hv) ?_
  exact kk H locs ls hP hS hL ⟨hO.1, ok_cons hO.2.1 (ok_hd hO.2.1), hO.2.2⟩
theorem st_dup2  (C : Cx p s m args c R mi X ad xa uv cA dC dI A cells slots) (hd : decode (mB mi) pc = .ok (.dup2, len)) (h : stepJ X mi pc al st mem (.dup2) len = some (.inl r)) (kk : Nx p l e R s m args below meth c cells slots Q mi ad xa uv cA dC dI A r) : Nx p l e R s m args below meth c cells slots Q mi ad xa uv cA dC dI A (pc, al, st, mem) := by
  obtain ⟨hx, hb, hml, hown, hts, hK, hE, hAd, hI, hF, hW, hcc, hss⟩ := C
  have hu : uv.category = 1 := hE.2.2.2.2.1.2
  replace h := ck_inv h
  obtain ⟨rfl, h⟩ := h
  replace h := c1_inv h
  obtain ⟨v, st', rfl, hv, h⟩ := h
  replace h := c1_inv h
  obtain ⟨w, st', rfl, hw, h⟩ := h
  obtain rfl := Sum.inl.inj (go_inv h)
  intro H locs ls hP hS hL hO
  refine lv_dup2_11 hx hb hd (cv_cat hu hv) (cv_cat hu hw) ?_
  exact kk H locs ls hP hS hL ⟨hO.1, ok_cons (ok_cons hO.2.1 (ok_hd (ok_tl hO.2.1))) (ok_hd hO.2.1), hO.2.2⟩
theorem st_pop  (C : Cx p s m args c R mi X ad xa uv cA dC dI A cells slots) (hd : decode (mB mi) pc = .ok (.pop, len)) (h : stepJ X mi pc al st mem (.pop) len = some (.inl r)) (kk : Nx p l e R s m args below meth c cells slots Q mi ad xa uv cA dC dI A r) : Nx p l e R s m args below meth c cells slots Q mi ad xa uv cA dC dI A (pc, al, st, mem) := by
  obtain ⟨hx, hb, hml, hown, hts, hK, hE, hAd, hI, hF, hW, hcc, hss⟩ := C
  have hu : uv.category = 1 := hE.2.2.2.2.1.2
  replace h := ck_inv h
  obtain ⟨rfl, h⟩ := h
  replace h := c1_inv h
  obtain ⟨v, st', rfl, hv, h⟩ := h
  obtain rfl := Sum.inl.inj (go_inv h)
  intro H locs ls hP hS hL hO
  refine lv_pop hx hb hd (cv_cat hu hv) ?_
  exact kk H locs ls hP hS hL ⟨hO.1, ok_tl hO.2.1, hO.2.2⟩
theorem st_iaload  (C : Cx p s m args c R mi X ad xa uv cA dC dI A cells slots) (hd : decode (mB mi) pc = .ok (.iaload, len)) (h : stepJ X mi pc al st mem (.iaload) len = some (.inl r)) (kk : Nx p l e R s m args below meth c cells slots Q mi ad xa uv cA dC dI A r) : Nx p l e R s m args below meth c cells slots Q mi ad xa uv cA dC dI A (pc, al, st, mem) := by
  obtain ⟨hx, hb, hml, hown, hts, hK, hE, hAd, hI, hF, hW, hcc, hss⟩ := C
  have hu : uv.category = 1 := hE.2.2.2.2.1.2
  replace h := ck_inv h
  obtain ⟨rfl, h⟩ := h
  replace h := p1_inv h
  obtain ⟨i, st', rfl, h⟩ := h
  replace h := pR_inv h
  rcases h with ⟨a, st', rfl, h⟩ | ⟨j, st', rfl, h⟩
  · replace h := bind_inv h
    obtain ⟨v, hv, h⟩ := h
    obtain ⟨l, hm, h0, h1, rfl⟩ := aget_inv hv
    obtain rfl := Sum.inl.inj (go_inv h)
    intro H locs ls hP hS hL hO
    have ha := okM_lt hO.2.2 hm
    have hc : okC (mem a) := hO.2.2.1 a
    rw [hm] at hc
    have hi := ok_hd hO.2.1
    refine va_iald hx hb hK hP a 0 (by rw [cws_get ha]; dsimp only; rw [hm]; rfl) rfl (c_in hi h0 h1) hd ?_
    refine W.eq (F0c (congrArg Value.int ?_)) (kk H locs ls hP hS hL ⟨hO.1, ok_cons (ok_tl (ok_tl hO.2.1)) (okI_at hc.1 _), hO.2.2⟩)
    show Int32.ofInt _ = _
    rw [c_nat hi]
  · replace h := gI_inv h
    obtain ⟨hj, h⟩ := h
    have hj : j = 0 := by simpa using hj
    subst hj
    replace h := bind_inv h
    obtain ⟨v, hv, h⟩ := h
    unfold sget at hv
    split at hv
    · rename_i hc
      obtain rfl := Option.some.inj hv
      obtain rfl := Sum.inl.inj (go_inv h)
      intro H locs ls hP hS hL hO
      have hi := ok_hd hO.2.1
      refine va_sld hx hb hE.1.1 hE.1.2.1 hE.1.2.2.1 hS (c_in hi hc.1 hc.2) hd ?_
      refine W.eq (F0c (congrArg Value.int ?_)) (kk H locs ls hP hS hL ⟨hO.1, ok_cons (ok_tl (ok_tl hO.2.1)) (okI_at hE.1.2.2.2.2 _), hO.2.2⟩)
      show Int32.ofInt _ = _
      rw [c_nat hi]
    · cases hv
theorem st_baload  (C : Cx p s m args c R mi X ad xa uv cA dC dI A cells slots) (hd : decode (mB mi) pc = .ok (.baload, len)) (h : stepJ X mi pc al st mem (.baload) len = some (.inl r)) (kk : Nx p l e R s m args below meth c cells slots Q mi ad xa uv cA dC dI A r) : Nx p l e R s m args below meth c cells slots Q mi ad xa uv cA dC dI A (pc, al, st, mem) := by
  obtain ⟨hx, hb, hml, hown, hts, hK, hE, hAd, hI, hF, hW, hcc, hss⟩ := C
  have hu : uv.category = 1 := hE.2.2.2.2.1.2
  replace h := ck_inv h
  obtain ⟨rfl, h⟩ := h
  replace h := p1_inv h
  obtain ⟨i, st', rfl, h⟩ := h
  replace h := pR_inv h
  rcases h with ⟨a, st', rfl, h⟩ | ⟨j, st', rfl, h⟩
  · cases h
  · replace h := bind_inv h
    obtain ⟨v, hv, h⟩ := h
    unfold xget at hv
    split at hv
    · rename_i hc
      obtain ⟨h1, h2, h3, h4⟩ := hc
      obtain rfl := Option.some.inj hv
      obtain rfl := Sum.inl.inj (go_inv h)
      intro H locs ls hP hS hL hO
      have hi := ok_hd hO.2.1
      obtain ⟨k, rfl⟩ : ∃ k, j = k + 11 := ⟨j - 11, by omega⟩
      have hk : k < 8 := by omega
      refine va_tb hx hb (hE.2.1.1 k hk).2.2.2 hS (c_in hi h3 (by rw [← sB_len hk]; exact h4)) rfl hd ?_
      refine W.eq (F0c (congrArg Value.int ?_)) (kk H locs ls hP hS hL ⟨hO.1, ok_cons (ok_tl (ok_tl hO.2.1)) (okI_at (sB_ok k hk) _), hO.2.2⟩)
      rw [c_nat hi, sB_at hk]
    · cases hv
theorem st_arraylength  (C : Cx p s m args c R mi X ad xa uv cA dC dI A cells slots) (hd : decode (mB mi) pc = .ok (.arraylength, len)) (h : stepJ X mi pc al st mem (.arraylength) len = some (.inl r)) (kk : Nx p l e R s m args below meth c cells slots Q mi ad xa uv cA dC dI A r) : Nx p l e R s m args below meth c cells slots Q mi ad xa uv cA dC dI A (pc, al, st, mem) := by
  obtain ⟨hx, hb, hml, hown, hts, hK, hE, hAd, hI, hF, hW, hcc, hss⟩ := C
  have hu : uv.category = 1 := hE.2.2.2.2.1.2
  replace h := ck_inv h
  obtain ⟨rfl, h⟩ := h
  replace h := pR_inv h
  rcases h with ⟨a, st', rfl, h⟩ | ⟨j, st', rfl, h⟩
  · replace h := bind_inv h
    obtain ⟨v, hv, h⟩ := h
    obtain ⟨l, hm, rfl⟩ := alen_inv hv
    obtain rfl := Sum.inl.inj (go_inv h)
    intro H locs ls hP hS hL hO
    have ha := okM_lt hO.2.2 hm
    refine va_alen hx hb hK hP a 0 (by rw [cws_get ha]; dsimp only; rw [hm]; rfl) rfl (v := Int32.ofInt (w32 l.length)) (by rw [i32_w]; exact Int32.ofInt_eq_ofNat.symm) hd ?_
    exact kk H locs ls hP hS hL ⟨hO.1, ok_cons (ok_tl hO.2.1) (w32_w _), hO.2.2⟩
  · replace h := bind_inv h
    obtain ⟨v, hv, h⟩ := h
    unfold xlen at hv
    split at hv
    · rename_i hj
      subst hj
      obtain rfl := Option.some.inj hv
      obtain rfl := Sum.inl.inj (go_inv h)
      intro H locs ls hP hS hL hO
      refine va_slen hx hb hE.1.1 hE.1.2.1 hE.1.2.2.1 hS hd ?_
      exact W.eq (F0c (congrArg Value.int (by rw [i32_w]; exact Int32.ofInt_eq_ofNat.symm))) (kk H locs ls hP hS hL ⟨hO.1, ok_cons (ok_tl hO.2.1) (w32_w _), hO.2.2⟩)
    · split at hv
      · rename_i hc
        obtain rfl := Option.some.inj hv
        obtain rfl := Sum.inl.inj (go_inv h)
        intro H locs ls hP hS hL hO
        obtain ⟨k, rfl⟩ : ∃ k, j = k + 11 := ⟨j - 11, by omega⟩
        have hk : k < 8 := by omega
        refine va_tlen hx hb (hE.2.1.1 k hk).2.2.2 hS (v := Int32.ofInt (w32 (sB (k + 11)).length)) (by rw [i32_w, sB_len hk]; exact Int32.ofInt_eq_ofNat.symm) hd ?_
        exact kk H locs ls hP hS hL ⟨hO.1, ok_cons (ok_tl hO.2.1) (w32_w _), hO.2.2⟩
      · cases hv
theorem st_iastore  (C : Cx p s m args c R mi X ad xa uv cA dC dI A cells slots) (hd : decode (mB mi) pc = .ok (.iastore, len)) (h : stepJ X mi pc al st mem (.iastore) len = some (.inl r)) (kk : Nx p l e R s m args below meth c cells slots Q mi ad xa uv cA dC dI A r) : Nx p l e R s m args below meth c cells slots Q mi ad xa uv cA dC dI A (pc, al, st, mem) := by
  obtain ⟨hx, hb, hml, hown, hts, hK, hE, hAd, hI, hF, hW, hcc, hss⟩ := C
  have hu : uv.category = 1 := hE.2.2.2.2.1.2
  replace h := ck_inv h
  obtain ⟨rfl, h⟩ := h
  replace h := p2_inv h
  obtain ⟨x, i, st', rfl, h⟩ := h
  replace h := pR_inv h
  rcases h with ⟨a, st', rfl, h⟩ | ⟨j, st', rfl, h⟩
  · replace h := bind_inv h
    obtain ⟨mem', hv, h⟩ := h
    obtain ⟨l, hm, h0, h1, rfl⟩ := aput_inv hv
    obtain rfl := Sum.inl.inj (go_inv h)
    intro H locs ls hP hS hL hO
    have ha := okM_lt hO.2.2 hm
    have hc : okC (mem a) := hO.2.2.1 a
    rw [hm] at hc
    have hi := ok_hd (ok_tl hO.2.1)
    refine va_iast hx hb hK hP (cws_D hAd hI) hS a 0 (by rw [cws_get ha]; dsimp only; rw [hm]; rfl) rfl (c_in hi h0 h1) hd (fun H1 locs1 hP1 hD1 hS1 => ?_)
    rw [c_nat hi, cws_set (arr_setA cA l h0 h1)] at hP1
    exact kk H1 locs1 ls hP1 hS1 hL ⟨hO.1, ok_tl (ok_tl (ok_tl hO.2.1)), okM_set hO.2.2 ha ⟨okI_set hc.1 (ok_hd hO.2.1), by rw [List.length_set]; exact hc.2⟩⟩
  · cases h
theorem st_getfield  (C : Cx p s m args c R mi X ad xa uv cA dC dI A cells slots) (hd : decode (mB mi) pc = .ok (.getfield i, len)) (h : stepJ X mi pc al st mem (.getfield i) len = some (.inl r)) (kk : Nx p l e R s m args below meth c cells slots Q mi ad xa uv cA dC dI A r) : Nx p l e R s m args below meth c cells slots Q mi ad xa uv cA dC dI A (pc, al, st, mem) := by
  obtain ⟨hx, hb, hml, hown, hts, hK, hE, hAd, hI, hF, hW, hcc, hss⟩ := C
  have hu : uv.category = 1 := hE.2.2.2.2.1.2
  replace h := ck_inv h
  obtain ⟨rfl, h⟩ := h
  replace h := pR_inv h
  rcases h with ⟨a, st', rfl, h⟩ | ⟨j, st', rfl, h⟩
  · replace h := bind_inv h
    obtain ⟨q, hq, h⟩ := h
    replace h := bind_inv h
    obtain ⟨v, hv, h⟩ := h
    obtain ⟨fs, hm, hf⟩ := fget_inv hv
    obtain ⟨⟨C, T, N⟩, hw1, hw2, hlink, hin⟩ := fld_ok hq
    obtain rfl := Sum.inl.inj (go_inv h)
    intro H locs ls hP hS hL hO
    have ha := okM_ltO hO.2.2 hm (vw_ne hw1)
    have hc : okC (mem a) := hO.2.2.1 a
    rw [hm] at hc
    have he : (cws ad xa uv cA mem)[a]? = some (ad a, .inr (q.1, fs.map (cv ad xa uv))) := by rw [cws_get ha, hm]; rfl
    have hg : (fs.map (cv ad xa uv))[q.2]? = some (cv ad xa uv v) := by rw [List.getElem?_map, hf]; rfl
    have hk2 := kk H locs ls hP hS hL ⟨hO.1, ok_cons (ok_tl hO.2.1) (ok_at hc hf), hO.2.2⟩
    rcases hlink with hlink | ⟨host, hlink⟩
    · exact va_get hx hb hts hin hown hK hP a he hw1 q.2 hw2 (hts _ hlink) (fun _ h9 => h9) hg hd hk2
    · exact va_getN hx hb hts hin hown hK hP a he hw1 q.2 hw2 (va_Nw.use rfl (hE.2.2.2.2.2 _ hlink)) (fun _ h9 => h9) hg hd hk2
  · replace h := bind_inv h
    obtain ⟨v, hv, h⟩ := h
    unfold xfld at hv
    split at hv
    · rename_i hj
      obtain ⟨k, rfl⟩ : ∃ k, j = k + 1 := ⟨j - 1, by omega⟩
      have hk : k < 8 := by omega
      split at hv
      · rename_i hc
        obtain ⟨hc1, rfl⟩ := hc
        obtain rfl := Option.some.inj hv
        obtain rfl := Sum.inl.inj (go_inv h)
        intro H locs ls hP hS hL hO
        refine vk_getf hx hb (hE.2.1.1 k hk).2.2.1 hS (by rw [hc1] at hown; exact hown) (hts _ q_jf.1) (fun _ h9 => h9) hd ?_
        exact kk H locs ls hP hS hL ⟨hO.1, ok_cons (ok_tl hO.2.1) trivial, hO.2.2⟩
      · split at hv
        · rename_i hc
          obtain ⟨hc1, rfl⟩ := hc
          obtain rfl := Option.some.inj hv
          obtain rfl := Sum.inl.inj (go_inv h)
          intro H locs ls hP hS hL hO
          refine vk_getf hx hb (hE.2.1.1 k hk).2.1 hS (by rw [hc1] at hown; exact hown) (hts _ q_jf.2.1) (fun _ h9 => h9) hd ?_
          exact kk H locs ls hP hS hL ⟨hO.1, ok_cons (ok_tl hO.2.1) (show w32 0 = 0 by decide), hO.2.2⟩
        · cases hv
    · cases hv
theorem st_putfield  (C : Cx p s m args c R mi X ad xa uv cA dC dI A cells slots) (hd : decode (mB mi) pc = .ok (.putfield i, len)) (h : stepJ X mi pc al st mem (.putfield i) len = some (.inl r)) (kk : Nx p l e R s m args below meth c cells slots Q mi ad xa uv cA dC dI A r) : Nx p l e R s m args below meth c cells slots Q mi ad xa uv cA dC dI A (pc, al, st, mem) := by
  obtain ⟨hx, hb, hml, hown, hts, hK, hE, hAd, hI, hF, hW, hcc, hss⟩ := C
  have hu : uv.category = 1 := hE.2.2.2.2.1.2
  replace h := ck_inv h
  obtain ⟨rfl, h⟩ := h
  replace h := p1_inv h
  obtain ⟨x, st', rfl, h⟩ := h
  replace h := pR_inv h
  rcases h with ⟨a, st', rfl, h⟩ | ⟨j, st', rfl, h⟩
  · replace h := bind_inv h
    obtain ⟨q, hq, h⟩ := h
    replace h := gI_inv h
    obtain ⟨hk, h⟩ := h
    replace h := bind_inv h
    obtain ⟨mem', hv, h⟩ := h
    obtain ⟨fs, hm, hf, rfl⟩ := fput_inv hv
    obtain ⟨⟨C, T, N⟩, hw1, hw2, hlink, hin⟩ := fld_ok hq
    obtain ⟨ty0, hty, hnm⟩ := vw_ty hw1
    obtain rfl := Sum.inl.inj (go_inv h)
    intro H locs ls hP hS hL hO
    have ha := okM_ltO hO.2.2 hm (vw_ne hw1)
    have hc : okC (mem a) := hO.2.2.1 a
    rw [hm] at hc
    have he : (cws ad xa uv cA mem)[a]? = some (ad a, .inr (q.1, fs.map (cv ad xa uv))) := by rw [cws_get ha, hm]; rfl
    have hkk : ∀ (H1 : Heap) (locs1 : List Loc), va_P (dC, dI) vwCl ((cws ad xa uv cA mem).set a (ad a, .inr (q.1, (fs.map (cv ad xa uv)).set q.2 (.int (Int32.ofInt x))))) H1 → va_D A ((cws ad xa uv cA mem).set a (ad a, .inr (q.1, (fs.map (cv ad xa uv)).set q.2 (.int (Int32.ofInt x))))) → va_S A s.heap H1 locs1 → W p l e R s m args below meth c H1 locs1 cells slots Q (F0 m (pc + 3) ls (st'.map (cv ad xa uv))) := by
      intro H1 locs1 hP1 hD1 hS1
      rw [cws_set (x := .inl (q.1, fs.set q.2 (vI x))) (by unfold ccell; dsimp only; rw [List.map_set]; rfl)] at hP1
      exact kk H1 locs1 ls hP1 hS1 hL ⟨hO.1, ok_tl (ok_tl hO.2.1), okM_set hO.2.2 ha (ok_set hc (ok_hd hO.2.1))⟩
    have hl : q.2 < (fs.map (cv ad xa uv)).length := by rw [List.length_map]; exact hf
    have hz : ∃ ty : FieldType, (T q.2).2.2.2 = false ∧ parseFieldDescriptor (T q.2).2.2.1 = some ty ∧ narrow ty (.int (Int32.ofInt x)) = .int (Int32.ofInt x) ∧ fits ty (.int (Int32.ofInt x)) = true := by
      rcases fok_inv hk with h1 | ⟨h1, h2⟩
      · obtain ⟨z1, z2⟩ := fty_1 hw1 h1
        exact ⟨.int, z1, by rw [z2]; decide, rfl, rfl⟩
      · obtain ⟨z1, z2⟩ := fty_2 hw1 h1
        exact ⟨.boolean, z1, by rw [z2]; decide, (nar_z h2).1, (nar_z h2).2⟩
    obtain ⟨ty, z1, z2, z3, z4⟩ := hz
    rcases hlink with hlink | ⟨host, hlink⟩
    · exact va_put hx hb hts hin ty0 hty hnm hown hK hP (cws_D hAd hI) hS a he hw1 q.2 hw2 (hts _ hlink) (fun _ h9 => h9) z1 z2 z3 z4 hl hd hkk
    · exact va_putN hx hb hts hin ty0 hty hnm hown hK hP (cws_D hAd hI) hS a he hw1 q.2 hw2 (va_Nw.use rfl (hE.2.2.2.2.2 _ hlink)) (fun _ h9 => h9) z1 z2 z3 z4 hl hd hkk
  · cases h
theorem st_getstatic  (C : Cx p s m args c R mi X ad xa uv cA dC dI A cells slots) (hd : decode (mB mi) pc = .ok (.getstatic i, len)) (h : stepJ X mi pc al st mem (.getstatic i) len = some (.inl r)) (kk : Nx p l e R s m args below meth c cells slots Q mi ad xa uv cA dC dI A r) : Nx p l e R s m args below meth c cells slots Q mi ad xa uv cA dC dI A (pc, al, st, mem) := by
  obtain ⟨hx, hb, hml, hown, hts, hK, hE, hAd, hI, hF, hW, hcc, hss⟩ := C
  have hu : uv.category = 1 := hE.2.2.2.2.1.2
  replace h := ck_inv h
  obtain ⟨rfl, h⟩ := h
  replace h := bind_inv h
  obtain ⟨v, hv, h⟩ := h
  unfold xst at hv
  split at hv
  · rename_i hc
    obtain ⟨hc1, rfl⟩ := hc
    obtain rfl := Option.some.inj hv
    obtain rfl := Sum.inl.inj (go_inv h)
    intro H locs ls hP hS hL hO
    refine va_gets hx hb hE.2.2.2.1 hS (by rw [hc1] at hown; exact hown) (hts _ q_jf.2.2.1) (fun _ h9 => h9) hd ?_
    exact kk H locs ls hP hS hL ⟨hO.1, ok_cons hO.2.1 (show w32 1 = 1 by decide), hO.2.2⟩
  · split at hv
    · rename_i hc
      obtain ⟨hc1, rfl⟩ := hc
      obtain rfl := Option.some.inj hv
      obtain rfl := Sum.inl.inj (go_inv h)
      intro H locs ls hP hS hL hO
      refine va_gets hx hb hE.2.2.2.2.1.1 hS (by rw [hc1] at hown; exact hown) (hts _ q_jf.2.2.2) (fun _ h9 => h9) hd ?_
      exact kk H locs ls hP hS hL ⟨hO.1, ok_cons hO.2.1 trivial, hO.2.2⟩
    · cases hv
theorem st_goto  (C : Cx p s m args c R mi X ad xa uv cA dC dI A cells slots) (hd : decode (mB mi) pc = .ok (.goto n, len)) (h : stepJ X mi pc al st mem (.goto n) len = some (.inl r)) (kk : Nx p l e R s m args below meth c cells slots Q mi ad xa uv cA dC dI A r) : Nx p l e R s m args below meth c cells slots Q mi ad xa uv cA dC dI A (pc, al, st, mem) := by
  obtain ⟨hx, hb, hml, hown, hts, hK, hE, hAd, hI, hF, hW, hcc, hss⟩ := C
  have hu : uv.category = 1 := hE.2.2.2.2.1.2
  replace h := ck_inv h
  obtain ⟨rfl, h⟩ := h
  replace h := jm_inv h
  obtain ⟨t, ht, h⟩ := h
  obtain rfl := Sum.inl.inj h
  intro H locs ls hP hS hL hO
  exact lv_goto hx hb hd ht (kk H locs ls hP hS hL hO)
theorem st_ifnonnull  (C : Cx p s m args c R mi X ad xa uv cA dC dI A cells slots) (hd : decode (mB mi) pc = .ok (.ifnonnull n, len)) (h : stepJ X mi pc al st mem (.ifnonnull n) len = some (.inl r)) (kk : Nx p l e R s m args below meth c cells slots Q mi ad xa uv cA dC dI A r) : Nx p l e R s m args below meth c cells slots Q mi ad xa uv cA dC dI A (pc, al, st, mem) := by
  obtain ⟨hx, hb, hml, hown, hts, hK, hE, hAd, hI, hF, hW, hcc, hss⟩ := C
  have hu : uv.category = 1 := hE.2.2.2.2.1.2
  replace h := ck_inv h
  obtain ⟨rfl, h⟩ := h
  replace h := pR_inv h
  rcases h with ⟨a, st', rfl, h⟩ | ⟨j, st', rfl, h⟩
  · replace h := jm_inv h
    obtain ⟨t, ht, h⟩ := h
    obtain rfl := Sum.inl.inj h
    intro H locs ls hP hS hL hO
    exact lv_ifnonnull hx hb hd ht (kk H locs ls hP hS hL ⟨hO.1, ok_tl hO.2.1, hO.2.2⟩)
  · cases h
theorem st_if_icmp {c0 : Jvm.ClassFile.Cond} (C : Cx p s m args c R mi X ad xa uv cA dC dI A cells slots) (hd : decode (mB mi) pc = .ok (.if_icmp c0 n, len)) (h : stepJ X mi pc al st mem (.if_icmp c0 n) len = some (.inl r)) (kk : Nx p l e R s m args below meth c cells slots Q mi ad xa uv cA dC dI A r) : Nx p l e R s m args below meth c cells slots Q mi ad xa uv cA dC dI A (pc, al, st, mem) := by
  obtain ⟨hx, hb, hml, hown, hts, hK, hE, hAd, hI, hF, hW, hcc, hss⟩ := C
  have hu : uv.category = 1 := hE.2.2.2.2.1.2
  replace h := ck_inv h
  obtain ⟨rfl, h⟩ := h
  replace h := p2_inv h
  obtain ⟨y, x, st', rfl, h⟩ := h
  replace h := br_inv h
  obtain ⟨t, ht, h⟩ := h
  obtain rfl := Sum.inl.inj h
  intro H locs ls hP hS hL hO
  have hx1 : w32 x = x := ok_hd (ok_tl hO.2.1)
  have hy1 : w32 y = y := ok_hd hO.2.1
  have hk := kk H locs ls hP hS hL ⟨hO.1, ok_tl (ok_tl hO.2.1), hO.2.2⟩
  dsimp only at hk
  cases c0 with
  | eq =>
    refine lv_icmp_eq hx hb hd ht (fun z => ?_) (fun z => ?_)
    · have z2 : x = y := (c_eq hx1 hy1).mp z
      simpa [cI, z2] using hk
    · have z2 : ¬ (x = y) := fun q => z ((c_eq hx1 hy1).mpr q)
      simpa [cI, z2] using hk
  | ne =>
    refine lv_icmp_ne hx hb hd ht (fun z => ?_) (fun z => ?_)
    · have z2 : ¬ (x = y) := fun q => z ((c_eq hx1 hy1).mpr q)
      simpa [cI, z2] using hk
    · have z2 : x = y := (c_eq hx1 hy1).mp z
      simpa [cI, z2] using hk
  | lt =>
    refine lv_icmp_lt hx hb hd ht (fun z => ?_) (fun z => ?_)
    · have z2 : x < y := (c_lt hx1 hy1).mp z
      simpa [cI, z2] using hk
    · have z2 : ¬ (x < y) := fun q => z ((c_lt hx1 hy1).mpr q)
      simpa [cI, z2] using hk
  | ge =>
    refine lv_icmp_ge hx hb hd ht (fun z => ?_) (fun z => ?_)
    · have z2 : ¬ (x < y) := (c_le hy1 hx1).mp z
      simpa [cI, z2] using hk
    · have z2 : x < y := Classical.not_not.mp (fun q => z ((c_le hy1 hx1).mpr q))
      simpa [cI, z2] using hk
  | gt =>
    refine lv_icmp_gt hx hb hd ht (fun z => ?_) (fun z => ?_)
    · have z2 : y < x := (c_lt hy1 hx1).mp z
      simpa [cI, z2] using hk
    · have z2 : ¬ (y < x) := fun q => z ((c_lt hy1 hx1).mpr q)
      simpa [cI, z2] using hk
  | le =>
    refine lv_icmp_le hx hb hd ht (fun z => ?_) (fun z => ?_)
    · have z2 : ¬ (y < x) := (c_le hx1 hy1).mp z
      simpa [cI, z2] using hk
    · have z2 : y < x := Classical.not_not.mp (fun q => z ((c_le hx1 hy1).mpr q))
      simpa [cI, z2] using hk
theorem st_ifCond {c0 : Jvm.ClassFile.Cond} (C : Cx p s m args c R mi X ad xa uv cA dC dI A cells slots) (hd : decode (mB mi) pc = .ok (.ifCond c0 n, len)) (h : stepJ X mi pc al st mem (.ifCond c0 n) len = some (.inl r)) (kk : Nx p l e R s m args below meth c cells slots Q mi ad xa uv cA dC dI A r) : Nx p l e R s m args below meth c cells slots Q mi ad xa uv cA dC dI A (pc, al, st, mem) := by
  obtain ⟨hx, hb, hml, hown, hts, hK, hE, hAd, hI, hF, hW, hcc, hss⟩ := C
  have hu : uv.category = 1 := hE.2.2.2.2.1.2
  replace h := ck_inv h
  obtain ⟨rfl, h⟩ := h
  replace h := p1_inv h
  obtain ⟨x, st', rfl, h⟩ := h
  replace h := br_inv h
  obtain ⟨t, ht, h⟩ := h
  obtain rfl := Sum.inl.inj h
  intro H locs ls hP hS hL hO
  have hx1 : w32 x = x := ok_hd hO.2.1
  have hy1 : w32 0 = 0 := by decide
  have hk := kk H locs ls hP hS hL ⟨hO.1, ok_tl hO.2.1, hO.2.2⟩
  dsimp only at hk
  cases c0 with
  | eq =>
    refine lv_if_eq hx hb hd ht (fun z => ?_) (fun z => ?_)
    · have z2 : x = 0 := (c_eq hx1 hy1).mp z
      simpa [cI, z2] using hk
    · have z2 : ¬ (x = 0) := fun q => z ((c_eq hx1 hy1).mpr q)
      simpa [cI, z2] using hk
  | ne =>
    refine lv_if_ne hx hb hd ht (fun z => ?_) (fun z => ?_)
    · have z2 : ¬ (x = 0) := fun q => z ((c_eq hx1 hy1).mpr q)
      simpa [cI, z2] using hk
    · have z2 : x = 0 := (c_eq hx1 hy1).mp z
      simpa [cI, z2] using hk
  | lt =>
    refine lv_if_lt hx hb hd ht (fun z => ?_) (fun z => ?_)
    · have z2 : x < 0 := (c_lt hx1 hy1).mp z
      simpa [cI, z2] using hk
    · have z2 : ¬ (x < 0) := fun q => z ((c_lt hx1 hy1).mpr q)
      simpa [cI, z2] using hk
  | ge =>
    refine lv_if_ge hx hb hd ht (fun z => ?_) (fun z => ?_)
    · have z2 : ¬ (x < 0) := (c_le hy1 hx1).mp z
      simpa [cI, z2] using hk
    · have z2 : x < 0 := Classical.not_not.mp (fun q => z ((c_le hy1 hx1).mpr q))
      simpa [cI, z2] using hk
  | gt =>
    refine lv_if_gt hx hb hd ht (fun z => ?_) (fun z => ?_)
    · have z2 : 0 < x := (c_lt hy1 hx1).mp z
      simpa [cI, z2] using hk
    · have z2 : ¬ (0 < x) := fun q => z ((c_lt hy1 hx1).mpr q)
      simpa [cI, z2] using hk
  | le =>
    refine lv_if_le hx hb hd ht (fun z => ?_) (fun z => ?_)
    · have z2 : ¬ (0 < x) := (c_le hx1 hy1).mp z
      simpa [cI, z2] using hk
    · have z2 : 0 < x := Classical.not_not.mp (fun q => z ((c_le hx1 hy1).mpr q))
      simpa [cI, z2] using hk
theorem st_tableswitch {d lo hi : Int} {offs : Array Int} (C : Cx p s m args c R mi X ad xa uv cA dC dI A cells slots) (hd : decode (mB mi) pc = .ok (.tableswitch d lo hi offs, len)) (h : stepJ X mi pc al st mem (.tableswitch d lo hi offs) len = some (.inl r)) (kk : Nx p l e R s m args below meth c cells slots Q mi ad xa uv cA dC dI A r) : Nx p l e R s m args below meth c cells slots Q mi ad xa uv cA dC dI A (pc, al, st, mem) := by
  obtain ⟨hx, hb, hml, hown, hts, hK, hE, hAd, hI, hF, hW, hcc, hss⟩ := C
  have hu : uv.category = 1 := hE.2.2.2.2.1.2
  replace h := p1_inv h
  obtain ⟨x, st', rfl, h⟩ := h
  unfold swT at h
  split at h
  · rename_i hc
    replace h := jm_inv h
    obtain ⟨t, ht, h⟩ := h
    obtain rfl := Sum.inl.inj h
    intro H locs ls hP hS hL hO
    have hx1 : w32 x = x := ok_hd hO.2.1
    exact lv_tableOut hx hb hd (by show w32 x < lo ∨ hi < w32 x; rw [hx1]; exact hc) ht (kk H locs ls hP hS hL ⟨hO.1, ok_tl hO.2.1, hO.2.2⟩)
  · rename_i hc
    replace h := bind_inv h
    obtain ⟨off, ho, h⟩ := h
    replace h := jm_inv h
    obtain ⟨t, ht, h⟩ := h
    obtain rfl := Sum.inl.inj h
    intro H locs ls hP hS hL hO
    have hx1 : w32 x = x := ok_hd hO.2.1
    exact lv_tableIn hx hb hd (by show ¬ w32 x < lo; rw [hx1]; exact fun z => hc (Or.inl z)) (by show ¬ hi < w32 x; rw [hx1]; exact fun z => hc (Or.inr z)) (by show offs[(w32 x - lo).toNat]? = _; rw [hx1]; exact ho) ht (kk H locs ls hP hS hL ⟨hO.1, ok_tl hO.2.1, hO.2.2⟩)
theorem st_lookupswitch {d : Int} {ps : Array (Int × Int)} (C : Cx p s m args c R mi X ad xa uv cA dC dI A cells slots) (hd : decode (mB mi) pc = .ok (.lookupswitch d ps, len)) (h : stepJ X mi pc al st mem (.lookupswitch d ps) len = some (.inl r)) (kk : Nx p l e R s m args below meth c cells slots Q mi ad xa uv cA dC dI A r) : Nx p l e R s m args below meth c cells slots Q mi ad xa uv cA dC dI A (pc, al, st, mem) := by
  obtain ⟨hx, hb, hml, hown, hts, hK, hE, hAd, hI, hF, hW, hcc, hss⟩ := C
  have hu : uv.category = 1 := hE.2.2.2.2.1.2
  replace h := p1_inv h
  obtain ⟨x, st', rfl, h⟩ := h
  replace h := gI_inv h
  obtain ⟨hp, h⟩ := h
  replace h := jm_inv h
  obtain ⟨t, ht, h⟩ := h
  obtain rfl := Sum.inl.inj h
  intro H locs ls hP hS hL hO
  have hx1 : w32 x = x := ok_hd hO.2.1
  exact lv_lookup hx hb hd hp (by show Op.lookupswitch.offset ps.toList d (w32 x) = _; rw [hx1]) ht (kk H locs ls hP hS hL ⟨hO.1, ok_tl hO.2.1, hO.2.2⟩)
theorem st_invokestatic  (C : Cx p s m args c R mi X ad xa uv cA dC dI A cells slots) (hd : decode (mB mi) pc = .ok (.invokestatic i, len)) (h : stepJ X mi pc al st mem (.invokestatic i) len = some (.inl r)) (kk : Nx p l e R s m args below meth c cells slots Q mi ad xa uv cA dC dI A r) : Nx p l e R s m args below meth c cells slots Q mi ad xa uv cA dC dI A (pc, al, st, mem) := by
  obtain ⟨hx, hb, hml, hown, hts, hK, hE, hAd, hI, hF, hW, hcc, hss⟩ := C
  have hu : uv.category = 1 := hE.2.2.2.2.1.2
  replace h := ck_inv h
  obtain ⟨rfl, h⟩ := h
  split at h
  · replace h := gI_inv h
    obtain ⟨-, h⟩ := h
    replace h := gI_inv h
    obtain ⟨-, h⟩ := h
    cases h
  · split at h
    · rename_i hac
      replace h := p2_inv h
      obtain ⟨n, dp, st', rfl, h⟩ := h
      replace h := pR_inv h
      rcases h with ⟨d, st', rfl, h⟩ | ⟨d, st', rfl, h⟩
      · replace h := p1_inv h
        obtain ⟨sp, st', rfl, h⟩ := h
        replace h := pR_inv h
        rcases h with ⟨a, st', rfl, h⟩ | ⟨a, st', rfl, h⟩
        · replace h := gI_inv h
          obtain ⟨hg, h⟩ := h
          simp only [Bool.and_eq_true, decide_eq_true_eq] at hg
          obtain ⟨⟨hg1, hg2⟩, hg3⟩ := hg
          replace h := bind_inv h
          obtain ⟨mem', hv, h⟩ := h
          obtain ⟨f, g, hm, hm2, h0, h1, h2, h3, h4, rfl⟩ := acpy_inv hv
          obtain rfl := Sum.inl.inj (go_inv h)
          intro H locs ls hP hS hL hO
          have ha := okM_lt hO.2.2 hm
          have hd2 := okM_lt hO.2.2 hm2
          have hcf : okC (mem a) := hO.2.2.1 a
          rw [hm] at hcf
          have hcg : okC (mem d) := hO.2.2.1 d
          rw [hm2] at hcg
          have q1 : w32 n = n := ok_hd hO.2.1
          have q2 : w32 dp = dp := ok_hd (ok_tl hO.2.1)
          have q3 : w32 sp = sp := ok_hd (ok_tl (ok_tl (ok_tl hO.2.1)))
          unfold isAC at hac
          simp only [Bool.and_eq_true, beq_iff_eq] at hac
          obtain ⟨hac1, hac2⟩ := hac
          subst hac2
          rw [hac1] at hown
          refine va_copyi hx hb (by rw [hml]; exact hL.1.1.symm) hown (hts _ q_ac.1) (hts _ q_ac.2.1) (hts _ q_ac.2.2.1) (hts _ q_ac.2.2.2) hK hP (cws_D hAd hI) hS a d 0 0 (by rw [cws_get ha]; dsimp only; rw [hm]; rfl) (by rw [cws_get hd2]; dsimp only; rw [hm2]; rfl) rfl rfl rfl (fun z => absurd ((c_lt (y := 0) q3 (by decide)).mp z) (by omega)) (fun z => absurd ((c_lt (y := 0) q2 (by decide)).mp z) (by omega)) (fun z => absurd ((c_lt (y := 0) q1 (by decide)).mp z) (by omega)) (by rw [c_nat q3, c_nat q1]; omega) (by rw [c_nat q2, c_nat q1]; omega) (fun _ _ => rfl) (Nat.le_trans hg2 hF) ?_ hd (fun H1 locs1 hP1 hD1 hS1 => ?_)
          · have z1 := cat_sum (st'.map (cv ad xa uv)) 4 (by rw [List.length_map]; exact hg1)
            have z2 : nativeFrameWords "java/lang/System" "arraycopy" 5 = 7 := by decide
            rw [z2]
            exact Nat.le_trans (Nat.add_le_add_right z1 _) (Nat.le_trans hg3 hW)
          · rw [c_nat q1, c_nat q2, c_nat q3, cws_set (arr_cpy cA f g (by omega))] at hP1
            exact kk H1 locs1 ls hP1 hS1 hL ⟨hO.1, ok_tl (ok_tl (ok_tl (ok_tl (ok_tl hO.2.1)))), okM_set hO.2.2 hd2 ⟨okI_cpy hcf.1 hcg.1 _ _ _, by rw [show (cpy f g sp.toNat dp.toNat n.toNat).length = g.length by simp [cpy]]; exact hcg.2⟩⟩
        · cases h
      · cases h
    · replace h := bind_inv h
      obtain ⟨q, hq, h⟩ := h
      replace h := gI_inv h
      obtain ⟨hg, h⟩ := h
      simp only [Bool.and_eq_true, decide_eq_true_eq] at hg
      obtain ⟨hg2, hg3⟩ := hg
      rcases mthM_lt hq with rfl | rfl | rfl
      · replace h := p2_inv h
        obtain ⟨y, x, st', rfl, h⟩ := h
        replace h := gI_inv h
        obtain ⟨hr, h⟩ := h
        have hr : st'.length ≤ 4 := by simpa using hr
        obtain rfl := Sum.inl.inj (go_inv h)
        intro H locs ls hP hS hL hO
        have z1 := cat_sum (st'.map (cv ad xa uv)) 4 (by rw [List.length_map]; exact hr)
        have hx1 : w32 x = x := ok_hd (ok_tl hO.2.1)
        have hy1 : w32 y = y := ok_hd hO.2.1
        refine va_mmax hx hb (by rw [hml]; exact hL.1.1.symm) hown (hts _ (mthM_max hq)) (hts _ q_max.1) (hts _ q_max.2.1) (hts _ q_max.2.2) (Nat.le_trans hg2 hF) (Nat.le_trans (Nat.add_le_add_right z1 _) (Nat.le_trans hg3 hW)) hcc hss hd ?_
        exact W.eq (F0c (congrArg Value.int (mx_lt hx1 hy1 y x))) (kk H locs ls hP hS hL ⟨hO.1, ok_cons (ok_tl (ok_tl hO.2.1)) (by show w32 _ = _; split <;> assumption), hO.2.2⟩)
      · replace h := p2_inv h
        obtain ⟨y, x, st', rfl, h⟩ := h
        replace h := gI_inv h
        obtain ⟨hr, h⟩ := h
        have hr : st'.length ≤ 4 := by simpa using hr
        obtain rfl := Sum.inl.inj (go_inv h)
        intro H locs ls hP hS hL hO
        have z1 := cat_sum (st'.map (cv ad xa uv)) 4 (by rw [List.length_map]; exact hr)
        have hx1 : w32 x = x := ok_hd (ok_tl hO.2.1)
        have hy1 : w32 y = y := ok_hd hO.2.1
        refine va_mmin hx hb (by rw [hml]; exact hL.1.1.symm) hown (hts _ (mthM_min hq)) (hts _ q_min.1) (hts _ q_min.2.1) (hts _ q_min.2.2) (Nat.le_trans hg2 hF) (Nat.le_trans (Nat.add_le_add_right z1 _) (Nat.le_trans hg3 hW)) hcc hss hd ?_
        exact W.eq (F0c (congrArg Value.int (mx_lt hy1 hx1 y x))) (kk H locs ls hP hS hL ⟨hO.1, ok_cons (ok_tl (ok_tl hO.2.1)) (by show w32 _ = _; split <;> assumption), hO.2.2⟩)
      · replace h := p1_inv h
        obtain ⟨x, st', rfl, h⟩ := h
        replace h := gI_inv h
        obtain ⟨hr, h⟩ := h
        have hr : st'.length ≤ 4 := by simpa using hr
        obtain rfl := Sum.inl.inj (go_inv h)
        intro H locs ls hP hS hL hO
        have z1 := cat_sum (st'.map (cv ad xa uv)) 4 (by rw [List.length_map]; exact hr)
        have hx1 : w32 x = x := ok_hd hO.2.1
        refine va_mabs hx hb (by rw [hml]; exact hL.1.1.symm) hown (hts _ (mthM_abs hq)) (hts _ q_abs.1) (hts _ q_abs.2.1) (hts _ q_abs.2.2) (Nat.le_trans hg2 hF) (Nat.le_trans (Nat.add_le_add_right z1 _) (Nat.le_trans hg3 hW)) hcc hss hd ?_
        refine W.eq (F0c (congrArg Value.int ?_)) (kk H locs ls hP hS hL ⟨hO.1, ok_cons (ok_tl hO.2.1) (w32_w _), hO.2.2⟩)
        show _ = Int32.ofInt (w32 _)
        rw [i32_w]
        have e0 : (0 : Int32) = Int32.ofInt 0 := rfl
        rw [e0]
        by_cases hn : x < 0
        · rw [if_neg (fun z => absurd hn ((c_le (x := 0) (by decide) hx1).mp z)), if_neg (by omega), Int32.ofInt_sub]
        · rw [if_pos ((c_le (x := 0) (by decide) hx1).mpr hn), if_pos (by omega)]
end ST
