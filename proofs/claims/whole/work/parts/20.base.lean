/-! STATES: numbers by place and rows by place; a duchy in the memory -/
abbrev ST : Type := (Nat → Int) × (Nat → List Int)
def setS (s : ST) (k : Nat) (v : Int) : ST := (fun j => if j = k then v else s.1 j, s.2)
def setL (s : ST) (k : Nat) (l : List Int) : ST := (s.1, fun j => if j = k then l else s.2 j)
theorem setS_1 {s : ST} {k j : Nat} {v : Int} : (setS s k v).1 j = if j = k then v else s.1 j := rfl
theorem setS_2 {s : ST} {k j : Nat} {v : Int} : (setS s k v).2 j = s.2 j := rfl
theorem setL_1 {s : ST} {k j : Nat} {l : List Int} : (setL s k l).1 j = s.1 j := rfl
theorem setL_2 {s : ST} {k j : Nat} {l : List Int} : (setL s k l).2 j = if j = k then l else s.2 j := rfl
theorem ST_ext {a b : ST} (h1 : ∀ k, a.1 k = b.1 k) (h2 : ∀ k, a.2 k = b.2 k) : a = b := Prod.ext (funext h1) (funext h2)
theorem rok_b1 : rok (some .boolean) 1 = true := rfl
theorem rok_b0 : rok (some .boolean) 0 = true := rfl
theorem rok_c {x : Int} (h : 0 ≤ x ∧ x ≤ 65535) : rok (some .char) x = true := by unfold rok; simpa using h
theorem rok_y {x : Int} (h : -128 ≤ x ∧ x ≤ 127) : rok (some .byte) x = true := by unfold rok; simpa using h
theorem w32_k1 {k : Nat} (h : k < 2147483647) : w32 ((k : Int) + 1) = ((k + 1 : Nat) : Int) := by rw [w32_id (by omega) (by omega)]; rfl
theorem w32_idx {i j : Nat} (hi : i < 6) (hj : j < 6) : w32 (w32 ((i : Int) * 6) + (j : Int)) = ((6 * i + j : Nat) : Int) := by
  rw [w32_id (n := (i : Int) * 6) (by omega) (by omega), w32_id (by omega) (by omega)]; omega
theorem w32_idx2 {i j : Nat} (hi : i < 6) (hj : j < 6) : w32 (w32 (6 * (i : Int)) + (j : Int)) = ((6 * i + j : Nat) : Int) := by
  rw [w32_id (n := 6 * (i : Int)) (by omega) (by omega), w32_id (by omega) (by omega)]; omega
theorem n2i {x : Int} (h : 0 ≤ x) : ∃ n : Nat, x = (n : Int) := ⟨x.toNat, (Int.toNat_of_nonneg h).symm⟩
def dobj (B : Nat) (d : ST) : List AV := [vI (d.1 0), vI (d.1 1), vI (d.1 2), vR (B + 1), vR (B + 2), vR (B + 3), vR (B + 4), vR (B + 5), vR (B + 6), vR (B + 7), vR (B + 8), vR (B + 9), vR (B + 10)]
def dput (mem : AM) (B : Nat) (d : ST) : AM := fun j => if j = B then .inl (0, dobj B d) else if B < j ∧ j ≤ B + 10 then .inr (d.2 (j - B)) else mem j
theorem dput_o {mem : AM} {B : Nat} {d : ST} : dput mem B d B = .inl (0, dobj B d) := by unfold dput; rw [if_pos rfl]
theorem dput_a {mem : AM} {B : Nat} {d : ST} {k : Nat} (h1 : 1 ≤ k) (h2 : k ≤ 10) : dput mem B d (B + k) = .inr (d.2 k) := by
  unfold dput
  rw [if_neg (by omega), if_pos (by omega), Nat.add_sub_cancel_left]
theorem aget_n {mem : AM} {a i : Nat} {l : List Int} (h : mem a = .inr l) (hi : i < l.length) : aget mem a (i : Int) = some (vI (l.getD i 0)) := by
  unfold aget
  rw [h]
  dsimp only
  rw [if_pos ⟨by omega, by omega⟩, Int.toNat_natCast]
theorem aput_n {mem : AM} {a i : Nat} {l : List Int} {x : Int} (h : mem a = .inr l) (hi : i < l.length) : aput mem a (i : Int) x = some (mset mem a (.inr (l.set i x))) := by
  unfold aput
  rw [h]
  dsimp only
  rw [if_pos ⟨by omega, by omega⟩, Int.toNat_natCast]
theorem dput_ms {mem : AM} {B : Nat} {d : ST} {k : Nat} {l : List Int} (h1 : 1 ≤ k) (h2 : k ≤ 10) : mset (dput mem B d) (B + k) (.inr l) = dput mem B (setL d k l) := by
  funext j
  unfold mset dput setL
  dsimp only
  by_cases h3 : j = B + k
  · rw [if_pos h3, if_neg (by omega), if_pos (by omega), if_pos (by omega)]
  · rw [if_neg h3]
    by_cases h4 : j = B
    · rw [if_pos h4, if_pos h4]; rfl
    · rw [if_neg h4, if_neg h4]
      by_cases h5 : B < j ∧ j ≤ B + 10
      · rw [if_pos h5, if_pos h5, if_neg (by omega)]
      · rw [if_neg h5, if_neg h5]
theorem dput_mo {mem : AM} {B : Nat} {d d' : ST} (h : ∀ k, d'.2 k = d.2 k) : mset (dput mem B d) B (.inl (0, dobj B d')) = dput mem B d' := by
  funext j
  unfold mset dput
  by_cases h4 : j = B
  · rw [if_pos h4, if_pos h4]
  · rw [if_neg h4, if_neg h4, if_neg h4, h]
theorem gd {α : Type} {mem : AM} {B : Nat} {d : ST} {x : Option α} : gR (dput mem B d) B 0 x = x := by
  unfold gR isO
  rw [dput_o]
  rfl
theorem fd0 {mem : AM} {B : Nat} {d : ST} : fget (dput mem B d) B 0 0 = some (vI (d.1 0)) := by unfold fget; rw [dput_o]; rfl
theorem fp0 {mem : AM} {B : Nat} {d : ST} {x : Int} : fput (dput mem B d) B 0 0 (vI x) = some (dput mem B (setS d 0 x)) := by
  unfold fput
  rw [dput_o]
  show (if _ then some (mset (dput mem B d) B (.inl (0, dobj B (setS d 0 x)))) else none) = _
  rw [if_pos ⟨rfl, Nat.le_of_ble_eq_true rfl⟩, dput_mo (d := d) (d' := setS d 0 x) (fun _ => rfl)]
theorem fd1 {mem : AM} {B : Nat} {d : ST} : fget (dput mem B d) B 0 1 = some (vI (d.1 1)) := by unfold fget; rw [dput_o]; rfl
theorem fp1 {mem : AM} {B : Nat} {d : ST} {x : Int} : fput (dput mem B d) B 0 1 (vI x) = some (dput mem B (setS d 1 x)) := by
  unfold fput
  rw [dput_o]
  show (if _ then some (mset (dput mem B d) B (.inl (0, dobj B (setS d 1 x)))) else none) = _
  rw [if_pos ⟨rfl, Nat.le_of_ble_eq_true rfl⟩, dput_mo (d := d) (d' := setS d 1 x) (fun _ => rfl)]
theorem fd2 {mem : AM} {B : Nat} {d : ST} : fget (dput mem B d) B 0 2 = some (vI (d.1 2)) := by unfold fget; rw [dput_o]; rfl
theorem fp2 {mem : AM} {B : Nat} {d : ST} {x : Int} : fput (dput mem B d) B 0 2 (vI x) = some (dput mem B (setS d 2 x)) := by
  unfold fput
  rw [dput_o]
  show (if _ then some (mset (dput mem B d) B (.inl (0, dobj B (setS d 2 x)))) else none) = _
  rw [if_pos ⟨rfl, Nat.le_of_ble_eq_true rfl⟩, dput_mo (d := d) (d' := setS d 2 x) (fun _ => rfl)]
theorem fd3 {mem : AM} {B : Nat} {d : ST} : fget (dput mem B d) B 0 3 = some (vR (B + 1)) := by unfold fget; rw [dput_o]; rfl
theorem ad1 {mem : AM} {B i : Nat} {d : ST} (h : i < (d.2 1).length) : aget (dput mem B d) (B + 1) (i : Int) = some (vI ((d.2 1).getD i 0)) := aget_n (dput_a (by decide) (by decide)) h
theorem pd1 {mem : AM} {B i : Nat} {d : ST} {x : Int} (h : i < (d.2 1).length) : aput (dput mem B d) (B + 1) (i : Int) x = some (dput mem B (setL d 1 ((d.2 1).set i x))) := (aput_n (dput_a (by decide) (by decide)) h).trans (congrArg some (dput_ms (by decide) (by decide)))
theorem ld1 {mem : AM} {B : Nat} {d : ST} : alen (dput mem B d) (B + 1) = some (vI (w32 (d.2 1).length)) := by unfold alen; rw [dput_a (by decide) (by decide)]
theorem fd4 {mem : AM} {B : Nat} {d : ST} : fget (dput mem B d) B 0 4 = some (vR (B + 2)) := by unfold fget; rw [dput_o]; rfl
theorem ad2 {mem : AM} {B i : Nat} {d : ST} (h : i < (d.2 2).length) : aget (dput mem B d) (B + 2) (i : Int) = some (vI ((d.2 2).getD i 0)) := aget_n (dput_a (by decide) (by decide)) h
theorem pd2 {mem : AM} {B i : Nat} {d : ST} {x : Int} (h : i < (d.2 2).length) : aput (dput mem B d) (B + 2) (i : Int) x = some (dput mem B (setL d 2 ((d.2 2).set i x))) := (aput_n (dput_a (by decide) (by decide)) h).trans (congrArg some (dput_ms (by decide) (by decide)))
theorem ld2 {mem : AM} {B : Nat} {d : ST} : alen (dput mem B d) (B + 2) = some (vI (w32 (d.2 2).length)) := by unfold alen; rw [dput_a (by decide) (by decide)]
theorem fd5 {mem : AM} {B : Nat} {d : ST} : fget (dput mem B d) B 0 5 = some (vR (B + 3)) := by unfold fget; rw [dput_o]; rfl
theorem ad3 {mem : AM} {B i : Nat} {d : ST} (h : i < (d.2 3).length) : aget (dput mem B d) (B + 3) (i : Int) = some (vI ((d.2 3).getD i 0)) := aget_n (dput_a (by decide) (by decide)) h
theorem pd3 {mem : AM} {B i : Nat} {d : ST} {x : Int} (h : i < (d.2 3).length) : aput (dput mem B d) (B + 3) (i : Int) x = some (dput mem B (setL d 3 ((d.2 3).set i x))) := (aput_n (dput_a (by decide) (by decide)) h).trans (congrArg some (dput_ms (by decide) (by decide)))
theorem ld3 {mem : AM} {B : Nat} {d : ST} : alen (dput mem B d) (B + 3) = some (vI (w32 (d.2 3).length)) := by unfold alen; rw [dput_a (by decide) (by decide)]
theorem fd6 {mem : AM} {B : Nat} {d : ST} : fget (dput mem B d) B 0 6 = some (vR (B + 4)) := by unfold fget; rw [dput_o]; rfl
theorem ad4 {mem : AM} {B i : Nat} {d : ST} (h : i < (d.2 4).length) : aget (dput mem B d) (B + 4) (i : Int) = some (vI ((d.2 4).getD i 0)) := aget_n (dput_a (by decide) (by decide)) h
theorem pd4 {mem : AM} {B i : Nat} {d : ST} {x : Int} (h : i < (d.2 4).length) : aput (dput mem B d) (B + 4) (i : Int) x = some (dput mem B (setL d 4 ((d.2 4).set i x))) := (aput_n (dput_a (by decide) (by decide)) h).trans (congrArg some (dput_ms (by decide) (by decide)))
theorem ld4 {mem : AM} {B : Nat} {d : ST} : alen (dput mem B d) (B + 4) = some (vI (w32 (d.2 4).length)) := by unfold alen; rw [dput_a (by decide) (by decide)]
theorem fd7 {mem : AM} {B : Nat} {d : ST} : fget (dput mem B d) B 0 7 = some (vR (B + 5)) := by unfold fget; rw [dput_o]; rfl
theorem ad5 {mem : AM} {B i : Nat} {d : ST} (h : i < (d.2 5).length) : aget (dput mem B d) (B + 5) (i : Int) = some (vI ((d.2 5).getD i 0)) := aget_n (dput_a (by decide) (by decide)) h
theorem pd5 {mem : AM} {B i : Nat} {d : ST} {x : Int} (h : i < (d.2 5).length) : aput (dput mem B d) (B + 5) (i : Int) x = some (dput mem B (setL d 5 ((d.2 5).set i x))) := (aput_n (dput_a (by decide) (by decide)) h).trans (congrArg some (dput_ms (by decide) (by decide)))
theorem ld5 {mem : AM} {B : Nat} {d : ST} : alen (dput mem B d) (B + 5) = some (vI (w32 (d.2 5).length)) := by unfold alen; rw [dput_a (by decide) (by decide)]
theorem fd8 {mem : AM} {B : Nat} {d : ST} : fget (dput mem B d) B 0 8 = some (vR (B + 6)) := by unfold fget; rw [dput_o]; rfl
theorem ad6 {mem : AM} {B i : Nat} {d : ST} (h : i < (d.2 6).length) : aget (dput mem B d) (B + 6) (i : Int) = some (vI ((d.2 6).getD i 0)) := aget_n (dput_a (by decide) (by decide)) h
theorem pd6 {mem : AM} {B i : Nat} {d : ST} {x : Int} (h : i < (d.2 6).length) : aput (dput mem B d) (B + 6) (i : Int) x = some (dput mem B (setL d 6 ((d.2 6).set i x))) := (aput_n (dput_a (by decide) (by decide)) h).trans (congrArg some (dput_ms (by decide) (by decide)))
theorem ld6 {mem : AM} {B : Nat} {d : ST} : alen (dput mem B d) (B + 6) = some (vI (w32 (d.2 6).length)) := by unfold alen; rw [dput_a (by decide) (by decide)]
theorem fd9 {mem : AM} {B : Nat} {d : ST} : fget (dput mem B d) B 0 9 = some (vR (B + 7)) := by unfold fget; rw [dput_o]; rfl
theorem ad7 {mem : AM} {B i : Nat} {d : ST} (h : i < (d.2 7).length) : aget (dput mem B d) (B + 7) (i : Int) = some (vI ((d.2 7).getD i 0)) := aget_n (dput_a (by decide) (by decide)) h
theorem pd7 {mem : AM} {B i : Nat} {d : ST} {x : Int} (h : i < (d.2 7).length) : aput (dput mem B d) (B + 7) (i : Int) x = some (dput mem B (setL d 7 ((d.2 7).set i x))) := (aput_n (dput_a (by decide) (by decide)) h).trans (congrArg some (dput_ms (by decide) (by decide)))
theorem ld7 {mem : AM} {B : Nat} {d : ST} : alen (dput mem B d) (B + 7) = some (vI (w32 (d.2 7).length)) := by unfold alen; rw [dput_a (by decide) (by decide)]
theorem fd10 {mem : AM} {B : Nat} {d : ST} : fget (dput mem B d) B 0 10 = some (vR (B + 8)) := by unfold fget; rw [dput_o]; rfl
theorem ad8 {mem : AM} {B i : Nat} {d : ST} (h : i < (d.2 8).length) : aget (dput mem B d) (B + 8) (i : Int) = some (vI ((d.2 8).getD i 0)) := aget_n (dput_a (by decide) (by decide)) h
theorem pd8 {mem : AM} {B i : Nat} {d : ST} {x : Int} (h : i < (d.2 8).length) : aput (dput mem B d) (B + 8) (i : Int) x = some (dput mem B (setL d 8 ((d.2 8).set i x))) := (aput_n (dput_a (by decide) (by decide)) h).trans (congrArg some (dput_ms (by decide) (by decide)))
theorem ld8 {mem : AM} {B : Nat} {d : ST} : alen (dput mem B d) (B + 8) = some (vI (w32 (d.2 8).length)) := by unfold alen; rw [dput_a (by decide) (by decide)]
theorem fd11 {mem : AM} {B : Nat} {d : ST} : fget (dput mem B d) B 0 11 = some (vR (B + 9)) := by unfold fget; rw [dput_o]; rfl
theorem ad9 {mem : AM} {B i : Nat} {d : ST} (h : i < (d.2 9).length) : aget (dput mem B d) (B + 9) (i : Int) = some (vI ((d.2 9).getD i 0)) := aget_n (dput_a (by decide) (by decide)) h
theorem pd9 {mem : AM} {B i : Nat} {d : ST} {x : Int} (h : i < (d.2 9).length) : aput (dput mem B d) (B + 9) (i : Int) x = some (dput mem B (setL d 9 ((d.2 9).set i x))) := (aput_n (dput_a (by decide) (by decide)) h).trans (congrArg some (dput_ms (by decide) (by decide)))
theorem ld9 {mem : AM} {B : Nat} {d : ST} : alen (dput mem B d) (B + 9) = some (vI (w32 (d.2 9).length)) := by unfold alen; rw [dput_a (by decide) (by decide)]
theorem fd12 {mem : AM} {B : Nat} {d : ST} : fget (dput mem B d) B 0 12 = some (vR (B + 10)) := by unfold fget; rw [dput_o]; rfl
theorem ad10 {mem : AM} {B i : Nat} {d : ST} (h : i < (d.2 10).length) : aget (dput mem B d) (B + 10) (i : Int) = some (vI ((d.2 10).getD i 0)) := aget_n (dput_a (by decide) (by decide)) h
theorem pd10 {mem : AM} {B i : Nat} {d : ST} {x : Int} (h : i < (d.2 10).length) : aput (dput mem B d) (B + 10) (i : Int) x = some (dput mem B (setL d 10 ((d.2 10).set i x))) := (aput_n (dput_a (by decide) (by decide)) h).trans (congrArg some (dput_ms (by decide) (by decide)))
theorem ld10 {mem : AM} {B : Nat} {d : ST} : alen (dput mem B d) (B + 10) = some (vI (w32 (d.2 10).length)) := by unfold alen; rw [dput_a (by decide) (by decide)]
/-- lengths of a duchy's rows -/
def DL (d : ST) : Prop := (d.2 1).length = 6 ∧ (d.2 2).length = 6 ∧ (d.2 3).length = 6 ∧ (d.2 4).length = 6 ∧ (d.2 5).length = 36 ∧ (d.2 6).length = 8 ∧ (d.2 7).length = 8 ∧ (d.2 8).length = 8 ∧ (d.2 9).length = 8 ∧ (d.2 10).length = 8
theorem getD_set {l : List Int} {i j : Nat} {x : Int} (h : i < l.length) : (l.set i x).getD j 0 = if j = i then x else l.getD j 0 := set_at l h x j
theorem getD_ne {l : List Int} {i j : Nat} {x : Int} (h : j ≠ i) : (l.set i x).getD j 0 = l.getD j 0 := by
  rw [List.getD_eq_getElem?_getD, List.getElem?_set, if_neg (fun e => h e.symm), List.getD_eq_getElem?_getD]
theorem getD_eq {l : List Int} {i : Nat} {x : Int} (h : i < l.length) : (l.set i x).getD i 0 = x := by rw [getD_set h, if_pos rfl]
theorem set_self {l : List Int} {i : Nat} : l.set i (l.getD i 0) = l := by
  refine List.ext_getElem? fun j => ?_
  rw [List.getElem?_set]
  by_cases h : i = j
  · subst h
    rw [if_pos rfl, List.getD_eq_getElem?_getD]
    split
    · rename_i h1
      rw [List.getElem?_eq_getElem h1]
      rfl
    · rename_i h1
      rw [List.getElem?_eq_none (by omega)]
  · rw [if_neg h]
/-- a loop that counts up -/
theorem up_loop {β : Type} (F : Nat → β) (N : Nat) (h : ∀ k, k < N → F k = F (k + 1)) : F 0 = F N := by
  induction N with
  | zero => rfl
  | succ n ih => rw [ih (fun k hk => h k (by omega)), h n (by omega)]
theorem z2 : ¬ (2 : Int) = 0 := by decide
theorem z7 : ¬ (7 : Int) = 0 := by decide
theorem z30 : ¬ (30 : Int) = 0 := by decide
theorem z256 : ¬ (256 : Int) = 0 := by decide
theorem z6 : ¬ (6 : Int) = 0 := by decide
theorem z10 : ¬ (10 : Int) = 0 := by decide
/-- a loop that counts up, as a function -/
def itr {σ : Type} (f : Nat → σ → σ) : Nat → Nat → σ → σ
  | 0, _, s => s
  | n + 1, k, s => itr f n (k + 1) (f k s)
theorem itr_inv {σ : Type} {f : Nat → σ → σ} (I : Nat → σ → Prop) (N : Nat) (h : ∀ k s, k < N → I k s → I (k + 1) (f k s)) : ∀ (n k : Nat) (s : σ), k + n = N → I k s → I N (itr f n k s)
  | 0, k, s, hk, hi => by rw [show N = k by omega]; exact hi
  | n + 1, k, s, hk, hi => itr_inv I N h n (k + 1) (f k s) (by omega) (h k s (by omega) hi)
theorem itr_congr {σ : Type} {f g : Nat → σ → σ} (I : Nat → σ → Prop) (N : Nat) (h : ∀ k s, k < N → I k s → f k s = g k s ∧ I (k + 1) (f k s)) : ∀ (n k : Nat) (s : σ), k + n = N → I k s → itr f n k s = itr g n k s
  | 0, _, _, _, _ => rfl
  | n + 1, k, s, hk, hi => by
    have h1 := h k s (by omega) hi
    show itr f n (k + 1) (f k s) = itr g n (k + 1) (g k s)
    rw [← h1.1]
    exact itr_congr I N h n (k + 1) (f k s) (by omega) h1.2
theorem itr_succ {σ : Type} {f : Nat → σ → σ} : ∀ (n k : Nat) (s : σ), itr f (n + 1) k s = f (k + n) (itr f n k s)
  | 0, _, _ => rfl
  | n + 1, k, s => by
    show itr f (n + 1) (k + 1) (f k s) = f (k + (n + 1)) (itr f n (k + 1) (f k s))
    rw [itr_succ n (k + 1) (f k s), show k + 1 + n = k + (n + 1) by omega]
