/-! THE REFERENCE KEEPS AND PUTS BACK -/
def kF (row : List Int) (off : Nat) (j : Nat) (l : List Int) : List Int := l.set (off + j) (row.getD j 0)
def rF (kept : List Int) (off : Nat) (j : Nat) (l : List Int) : List Int := l.set j (kept.getD (off + j) 0)
theorem kF_len (row : List Int) (off : Nat) : ∀ (n k : Nat) (l : List Int), (itr (kF row off) n k l).length = l.length
  | 0, _, _ => rfl
  | n + 1, k, l => by
    show (itr (kF row off) n (k + 1) (kF row off k l)).length = _
    rw [kF_len row off n (k + 1), kF, List.length_set]
theorem rF_len (kept : List Int) (off : Nat) : ∀ (n k : Nat) (l : List Int), (itr (rF kept off) n k l).length = l.length
  | 0, _, _ => rfl
  | n + 1, k, l => by
    show (itr (rF kept off) n (k + 1) (rF kept off k l)).length = _
    rw [rF_len kept off n (k + 1), rF, List.length_set]
theorem kF_at (row : List Int) (off : Nat) (l : List Int) (n : Nat) (hn : off + n ≤ l.length) : ∀ j, (itr (kF row off) n 0 l).getD j 0 = if off ≤ j ∧ j < off + n then row.getD (j - off) 0 else l.getD j 0 := by
  have h := itr_inv (f := kF row off) (fun k e => e.length = l.length ∧ ∀ j, e.getD j 0 = if off ≤ j ∧ j < off + k then row.getD (j - off) 0 else l.getD j 0) n (fun k e hk he => by
    refine ⟨by rw [kF, List.length_set]; exact he.1, fun j => ?_⟩
    rw [kF, getD_set (by omega)]
    by_cases q : j = off + k
    · rw [if_pos q, if_pos (by omega), show j - off = k by omega]
    · rw [if_neg q, he.2 j]
      by_cases q2 : off ≤ j ∧ j < off + k
      · rw [if_pos q2, if_pos (by omega)]
      · rw [if_neg q2, if_neg (by omega)]) n 0 l (by omega) ⟨rfl, fun j => by rw [if_neg (by omega)]⟩
  exact h.2
theorem rF_eq (kept : List Int) (off : Nat) (l t : List Int) (hl : l.length = t.length) (ht : ∀ j, j < t.length → kept.getD (off + j) 0 = t.getD j 0) : itr (rF kept off) t.length 0 l = t := by
  have h := itr_inv (f := rF kept off) (fun k e => e.length = t.length ∧ ∀ j, j < k → e.getD j 0 = t.getD j 0) t.length (fun k e hk he => by
    refine ⟨by rw [rF, List.length_set]; exact he.1, fun j hj => ?_⟩
    rw [rF, getD_set (by omega)]
    by_cases q : j = k
    · rw [if_pos q, q, ht k hk]
    · rw [if_neg q]
      exact he.2 j (by omega)) t.length 0 l (by omega) ⟨hl, fun j hj => by omega⟩
  refine List.ext_getElem? fun j => ?_
  rcases Nat.lt_or_ge j t.length with q | q
  · have h2 := h.2 j q
    rw [List.getD_eq_getElem?_getD, List.getD_eq_getElem?_getD] at h2
    rw [List.getElem?_eq_getElem (by omega), List.getElem?_eq_getElem q] at h2 ⊢
    exact congrArg some h2
  · rw [List.getElem?_eq_none (by omega), List.getElem?_eq_none q]
section KE
variable {X : List Int} {mem : AM} {g d : ST}
/-- the reference's rest with its kept row, mode and place -/
def gG (g : ST) (l : List Int) (m : Int) (c : Nat) : ST := setS (setS (setL g 5 l) 4 m) 5 (c : Int)
theorem gG_gG {l l2 : List Int} {m m2 : Int} {c c2 : Nat} : gG (gG g l m c) l2 m2 c2 = gG g l2 m2 c2 := by
  unfold gG
  refine ST_ext (fun j => ?_) (fun j => ?_)
  · simp only [setS_1, setL_1]
    (repeat' split) <;> rfl
  · simp only [setS_2, setL_2]
    (repeat' split) <;> rfl
theorem gG_set {l l2 : List Int} {m : Int} {c : Nat} {v : Int} (hv : v = ((c + 1 : Nat) : Int)) : setS (setL (gG g l m c) 5 l2) 5 v = gG g l2 m (c + 1) := by
  subst hv
  unfold gG
  refine ST_ext (fun j => ?_) (fun j => ?_)
  · simp only [setS_1, setL_1]
    (repeat' split) <;> first | rfl | omega
  · simp only [setS_2, setL_2]
    (repeat' split) <;> rfl
theorem gG_inc {l : List Int} {m : Int} {c : Nat} {v : Int} (hv : v = ((c + 1 : Nat) : Int)) : setS (gG g l m c) 5 v = gG g l m (c + 1) := by
  subst hv
  unfold gG
  refine ST_ext (fun j => ?_) (fun j => ?_)
  · simp only [setS_1, setL_1]
    (repeat' split) <;> first | rfl | omega
  · rfl
theorem gG_4 {l : List Int} {m : Int} {c : Nat} : (gG g l m c).1 4 = m := rfl
theorem gG_5 {l : List Int} {m : Int} {c : Nat} : (gG g l m c).1 5 = (c : Int) := rfl
theorem gG_k {l : List Int} {m : Int} {c : Nat} : (gG g l m c).2 5 = l := rfl
theorem T5_passesK {a : Nat} {row : List Int} {N : Nat} (hr : ∀ e, mpt mem e d a = .inr row) (hN : row.length = N) (hN2 : N ≤ 36) {l : List Int} {off : Nat} (hl : l.length = 309) (ho : off + N ≤ 309) {z : AV} : ev X m_X5_passes 0 [vR 53, vR a, z] [] (mpt mem (gG g l 1 off) d) = some (none, mpt mem (gG g (itr (kF row off) N 0 l) 1 (off + N)) d) := by
  have wN : w32 ((N : Nat) : Int) = (N : Int) := w32_id (by omega) (by omega)
  have hlen : ∀ e, alen (mpt mem e d) a = some (vI (N : Int)) := fun e => by unfold alen; rw [hr e]; dsimp only; rw [hN, wN]
  have key : ∀ (n k : Nat) (l : List Int), l.length = 309 → k + n = N → ev X m_X5_passes 2 [vR 53, vR a, vI (k : Int)] [] (mpt mem (gG g l 1 (off + k)) d) = some (none, mpt mem (gG g (itr (kF row off) n k l) 1 (off + N)) d) := by
    intro n
    induction n with
    | zero =>
      intro k l hl hk
      have c1 : ¬ (k : Int) < (N : Int) := by omega
      rw [eX5_passes_2]
      simp only [eX5_passes_0, eX5_passes_1, eX5_passes_3, eX5_passes_4, eX5_passes_5, eX5_passes_8, eX5_passes_9, eX5_passes_12, eX5_passes_15, eX5_passes_16, eX5_passes_19, eX5_passes_20, eX5_passes_23, eX5_passes_24, eX5_passes_25, eX5_passes_26, eX5_passes_27, eX5_passes_30, eX5_passes_31, eX5_passes_32, eX5_passes_33, eX5_passes_36, eX5_passes_37, eX5_passes_40, eX5_passes_41, eX5_passes_42, eX5_passes_43, eX5_passes_43r, eX5_passes_44, eX5_passes_47, eX5_passes_48, eX5_passes_49, eX5_passes_52, eX5_passes_55, eX5_passes_58, evb_some, evm_some, evc_some, evc_none, gd, if_true, if_false, eq_self, and_self, and_true, true_and, ne_eq, not_false_eq_true, or_true, true_or, hlen, if_neg c1, itr]
      rw [show k = N by omega]
    | succ n ih =>
      intro k l hl hk
      have c1 : (k : Int) < (N : Int) := by omega
      have hg : ∀ e, aget (mpt mem e d) a (k : Int) = some (vI (row.getD k 0)) := fun e => aget_n (hr e) (by omega)
      have h309 : off + k < 309 := by omega
      have ih2 := ih (k + 1) (kF row off k l) (by rw [kF, List.length_set]; exact hl) (by omega)
      rw [eX5_passes_2]
      simp only [eX5_passes_0, eX5_passes_1, eX5_passes_3, eX5_passes_4, eX5_passes_5, eX5_passes_8, eX5_passes_9, eX5_passes_12, eX5_passes_15, eX5_passes_16, eX5_passes_19, eX5_passes_20, eX5_passes_23, eX5_passes_24, eX5_passes_25, eX5_passes_26, eX5_passes_27, eX5_passes_30, eX5_passes_31, eX5_passes_32, eX5_passes_33, eX5_passes_36, eX5_passes_37, eX5_passes_40, eX5_passes_41, eX5_passes_42, eX5_passes_43, eX5_passes_43r, eX5_passes_44, eX5_passes_47, eX5_passes_48, eX5_passes_49, eX5_passes_52, eX5_passes_55, eX5_passes_58, evb_some, evm_some, evc_some, evc_none, gd, if_true, if_false, eq_self, and_self, and_true, true_and, ne_eq, not_false_eq_true, or_true, true_or, mg, mf0, mf1, mf2, mf3, mf4, mf5, mf6, mf7, mf8, mf9, mf10, mf11, mf12, mf13, mf14, mf15, mf16, mf17, mf18, mf19, mf20, mf21, mf22, mf23, mf24, mf25, mf26, mf27, mw11, mw12, mw13, mw18, mw19, mw20, mw22, mw23, mw24, mw27, mx54, mx55, mx56, mx57, mx58, mx59, mx60, mx61, mx62, mx63, mx64, mx65, mx66, mx67, mx68, mx69, mx70, mx71, hlen, hg, gG_4, gG_5, gG_k, hl, h309, if_pos c1, show ¬ (1 : Int) = 0 by decide, setS_1, setL_1, setS_2, w32_k1 (show k < 2147483647 by omega), w32_k1 (show off + k < 2147483647 by omega)]
      rw [gG_set rfl]
      exact ih2
  have h := key N 0 l hl (by omega)
  exact Eq.trans (by simp only [eX5_passes_0, eX5_passes_1]; rfl) h
theorem T5_passesB {a i : Nat} {N : Nat} (hr : ∀ e d, mpt mem e d a = .inr (d.2 i)) (hw : ∀ e d l, mset (mpt mem e d) a (.inr l) = mpt mem e (setL d i l)) (hN : (d.2 i).length = N) (hN2 : N ≤ 36) {l : List Int} {off : Nat} (hl : l.length = 309) (ho : off + N ≤ 309) {z : AV} : ev X m_X5_passes 0 [vR 53, vR a, z] [] (mpt mem (gG g l 0 off) d) = some (none, mpt mem (gG g l 0 (off + N)) (setL d i (itr (rF l off) N 0 (d.2 i)))) := by
  have wN : w32 ((N : Nat) : Int) = (N : Int) := w32_id (by omega) (by omega)
  have key : ∀ (n k : Nat) (row : List Int), row.length = N → k + n = N → ev X m_X5_passes 2 [vR 53, vR a, vI (k : Int)] [] (mpt mem (gG g l 0 (off + k)) (setL d i row)) = some (none, mpt mem (gG g l 0 (off + N)) (setL d i (itr (rF l off) n k row))) := by
    intro n
    induction n with
    | zero =>
      intro k row hrow hk
      have c1 : ¬ (k : Int) < (N : Int) := by omega
      have hlen : ∀ e, alen (mpt mem e (setL d i row)) a = some (vI (N : Int)) := fun e => by unfold alen; rw [hr e]; dsimp only; rw [setL_2, if_pos rfl, hrow, wN]
      rw [eX5_passes_2]
      simp only [eX5_passes_0, eX5_passes_1, eX5_passes_3, eX5_passes_4, eX5_passes_5, eX5_passes_8, eX5_passes_9, eX5_passes_12, eX5_passes_15, eX5_passes_16, eX5_passes_19, eX5_passes_20, eX5_passes_23, eX5_passes_24, eX5_passes_25, eX5_passes_26, eX5_passes_27, eX5_passes_30, eX5_passes_31, eX5_passes_32, eX5_passes_33, eX5_passes_36, eX5_passes_37, eX5_passes_40, eX5_passes_41, eX5_passes_42, eX5_passes_43, eX5_passes_43r, eX5_passes_44, eX5_passes_47, eX5_passes_48, eX5_passes_49, eX5_passes_52, eX5_passes_55, eX5_passes_58, evb_some, evm_some, evc_some, evc_none, gd, if_true, if_false, eq_self, and_self, and_true, true_and, ne_eq, not_false_eq_true, or_true, true_or, hlen, if_neg c1, itr]
      rw [show k = N by omega]
    | succ n ih =>
      intro k row hrow hk
      have c1 : (k : Int) < (N : Int) := by omega
      have hlen : ∀ e, alen (mpt mem e (setL d i row)) a = some (vI (N : Int)) := fun e => by unfold alen; rw [hr e]; dsimp only; rw [setL_2, if_pos rfl, hrow, wN]
      have hp : ∀ e x, aput (mpt mem e (setL d i row)) a (k : Int) x = some (mpt mem e (setL d i (row.set k x))) := fun e x => by
        rw [aput_n (l := row) (by rw [hr, setL_2, if_pos rfl]) (by omega), hw]
        refine congrArg (fun z => some (mpt mem e z)) (ST_ext (fun _ => rfl) (fun j => ?_))
        simp only [setL_2]
        split <;> rfl
      have h309 : off + k < 309 := by omega
      have ih2 := ih (k + 1) (rF l off k row) (by rw [rF, List.length_set]; exact hrow) (by omega)
      rw [eX5_passes_2]
      simp only [eX5_passes_0, eX5_passes_1, eX5_passes_3, eX5_passes_4, eX5_passes_5, eX5_passes_8, eX5_passes_9, eX5_passes_12, eX5_passes_15, eX5_passes_16, eX5_passes_19, eX5_passes_20, eX5_passes_23, eX5_passes_24, eX5_passes_25, eX5_passes_26, eX5_passes_27, eX5_passes_30, eX5_passes_31, eX5_passes_32, eX5_passes_33, eX5_passes_36, eX5_passes_37, eX5_passes_40, eX5_passes_41, eX5_passes_42, eX5_passes_43, eX5_passes_43r, eX5_passes_44, eX5_passes_47, eX5_passes_48, eX5_passes_49, eX5_passes_52, eX5_passes_55, eX5_passes_58, evb_some, evm_some, evc_some, evc_none, gd, if_true, if_false, eq_self, and_self, and_true, true_and, ne_eq, not_false_eq_true, or_true, true_or, mg, mf0, mf1, mf2, mf3, mf4, mf5, mf6, mf7, mf8, mf9, mf10, mf11, mf12, mf13, mf14, mf15, mf16, mf17, mf18, mf19, mf20, mf21, mf22, mf23, mf24, mf25, mf26, mf27, ma54, ma55, ma56, ma57, ma58, ma59, ma60, ma61, ma62, ma63, ma64, ma65, ma66, ma67, ma68, ma69, ma70, ma71, mw11, mw12, mw13, mw18, mw19, mw20, mw22, mw23, mw24, mw27, mx54, mx55, mx56, mx57, mx58, mx59, mx60, mx61, mx62, mx63, mx64, mx65, mx66, mx67, mx68, mx69, mx70, mx71, hlen, hp, gG_4, gG_5, gG_k, hl, h309, if_pos c1, setS_1, setL_1, w32_k1 (show k < 2147483647 by omega), w32_k1 (show off + k < 2147483647 by omega)]
      rw [gG_inc rfl]
      exact ih2
  have e0 : setL d i (d.2 i) = d := ST_ext (fun _ => rfl) (fun j => by simp only [setL_2]; split <;> simp_all)
  have h := key N 0 (d.2 i) hN (by omega)
  rw [e0] at h
  exact Eq.trans (by simp only [eX5_passes_0, eX5_passes_1]; rfl) h
theorem T5_passOneK {l : List Int} {c : Nat} {v : Int} (hl : l.length = 309) (hc : c < 309) {z : AV} : ev X m_X5_passOne 0 [vR 53, vI v, z] [] (mpt mem (gG g l 1 c) d) = some (some (vI v), mpt mem (gG g (l.set c v) 1 (c + 1)) d) := by
  simp only [eX5_passOne_0, eX5_passOne_1, eX5_passOne_4, eX5_passOne_7, eX5_passOne_8, eX5_passOne_11, eX5_passOne_12, eX5_passOne_15, eX5_passOne_16, eX5_passOne_19, eX5_passOne_20, eX5_passOne_21, eX5_passOne_22, eX5_passOne_25, eX5_passOne_28, eX5_passOne_29, eX5_passOne_32, eX5_passOne_33, eX5_passOne_36, eX5_passOne_37, eX5_passOne_38, eX5_passOne_39, eX5_passOne_39r, eX5_passOne_40, eX5_passOne_43, eX5_passOne_44, eX5_passOne_45, eX5_passOne_48, eX5_passOne_49, evb_some, evm_some, evc_some, evc_none, gd, if_true, if_false, eq_self, and_self, and_true, true_and, ne_eq, not_false_eq_true, or_true, true_or, mg, mf0, mf1, mf2, mf3, mf4, mf5, mf6, mf7, mf8, mf9, mf10, mf11, mf12, mf13, mf14, mf15, mf16, mf17, mf18, mf19, mf20, mf21, mf22, mf23, mf24, mf25, mf26, mf27, mw11, mw12, mw13, mw18, mw19, mw20, mw22, mw23, mw24, mw27, mx54, mx55, mx56, mx57, mx58, mx59, mx60, mx61, mx62, mx63, mx64, mx65, mx66, mx67, mx68, mx69, mx70, mx71, gG_4, gG_5, gG_k, hl, hc, show ¬ (1 : Int) = 0 by decide, setS_1, setL_1, setS_2, w32_k1 (show c < 2147483647 by omega)]
  rw [gG_set rfl]
theorem T5_passOneB {l : List Int} {c : Nat} {v : Int} (hl : l.length = 309) (hc : c < 309) {z : AV} : ev X m_X5_passOne 0 [vR 53, vI v, z] [] (mpt mem (gG g l 0 c) d) = some (some (vI (l.getD c 0)), mpt mem (gG g l 0 (c + 1)) d) := by
  simp only [eX5_passOne_0, eX5_passOne_1, eX5_passOne_4, eX5_passOne_7, eX5_passOne_8, eX5_passOne_11, eX5_passOne_12, eX5_passOne_15, eX5_passOne_16, eX5_passOne_19, eX5_passOne_20, eX5_passOne_21, eX5_passOne_22, eX5_passOne_25, eX5_passOne_28, eX5_passOne_29, eX5_passOne_32, eX5_passOne_33, eX5_passOne_36, eX5_passOne_37, eX5_passOne_38, eX5_passOne_39, eX5_passOne_39r, eX5_passOne_40, eX5_passOne_43, eX5_passOne_44, eX5_passOne_45, eX5_passOne_48, eX5_passOne_49, evb_some, evm_some, evc_some, evc_none, gd, if_true, if_false, eq_self, and_self, and_true, true_and, ne_eq, not_false_eq_true, or_true, true_or, mg, mf0, mf1, mf2, mf3, mf4, mf5, mf6, mf7, mf8, mf9, mf10, mf11, mf12, mf13, mf14, mf15, mf16, mf17, mf18, mf19, mf20, mf21, mf22, mf23, mf24, mf25, mf26, mf27, ma54, ma55, ma56, ma57, ma58, ma59, ma60, ma61, ma62, ma63, ma64, ma65, ma66, ma67, ma68, ma69, ma70, ma71, mw11, mw12, mw13, mw18, mw19, mw20, mw22, mw23, mw24, mw27, mx54, mx55, mx56, mx57, mx58, mx59, mx60, mx61, mx62, mx63, mx64, mx65, mx66, mx67, mx68, mx69, mx70, mx71, gG_4, gG_5, gG_k, hl, hc, setS_1, setL_1, w32_k1 (show c < 2147483647 by omega)]
  rw [gG_inc rfl]

theorem ms55 {mem : AM} (e d : ST) (l : List Int) : mset (mpt mem e d) 55 (.inr l) = mpt mem e (setL d 1 l) := by
  funext j
  unfold mset
  by_cases h : j = 55
  · subst h; rfl
  · rw [if_neg h]
    unfold mpt
    split
    · rfl
    · split
      · rename_i h1 h2
        unfold mrow setL
        split <;> first | rfl | omega
      · rfl
theorem ms56 {mem : AM} (e d : ST) (l : List Int) : mset (mpt mem e d) 56 (.inr l) = mpt mem e (setL d 2 l) := by
  funext j
  unfold mset
  by_cases h : j = 56
  · subst h; rfl
  · rw [if_neg h]
    unfold mpt
    split
    · rfl
    · split
      · rename_i h1 h2
        unfold mrow setL
        split <;> first | rfl | omega
      · rfl
theorem ms57 {mem : AM} (e d : ST) (l : List Int) : mset (mpt mem e d) 57 (.inr l) = mpt mem e (setL d 3 l) := by
  funext j
  unfold mset
  by_cases h : j = 57
  · subst h; rfl
  · rw [if_neg h]
    unfold mpt
    split
    · rfl
    · split
      · rename_i h1 h2
        unfold mrow setL
        split <;> first | rfl | omega
      · rfl
theorem ms58 {mem : AM} (e d : ST) (l : List Int) : mset (mpt mem e d) 58 (.inr l) = mpt mem e (setL d 4 l) := by
  funext j
  unfold mset
  by_cases h : j = 58
  · subst h; rfl
  · rw [if_neg h]
    unfold mpt
    split
    · rfl
    · split
      · rename_i h1 h2
        unfold mrow setL
        split <;> first | rfl | omega
      · rfl
theorem ms59 {mem : AM} (e d : ST) (l : List Int) : mset (mpt mem e d) 59 (.inr l) = mpt mem e (setL d 5 l) := by
  funext j
  unfold mset
  by_cases h : j = 59
  · subst h; rfl
  · rw [if_neg h]
    unfold mpt
    split
    · rfl
    · split
      · rename_i h1 h2
        unfold mrow setL
        split <;> first | rfl | omega
      · rfl
theorem ms60 {mem : AM} (e d : ST) (l : List Int) : mset (mpt mem e d) 60 (.inr l) = mpt mem e (setL d 6 l) := by
  funext j
  unfold mset
  by_cases h : j = 60
  · subst h; rfl
  · rw [if_neg h]
    unfold mpt
    split
    · rfl
    · split
      · rename_i h1 h2
        unfold mrow setL
        split <;> first | rfl | omega
      · rfl
theorem ms61 {mem : AM} (e d : ST) (l : List Int) : mset (mpt mem e d) 61 (.inr l) = mpt mem e (setL d 7 l) := by
  funext j
  unfold mset
  by_cases h : j = 61
  · subst h; rfl
  · rw [if_neg h]
    unfold mpt
    split
    · rfl
    · split
      · rename_i h1 h2
        unfold mrow setL
        split <;> first | rfl | omega
      · rfl
theorem ms62 {mem : AM} (e d : ST) (l : List Int) : mset (mpt mem e d) 62 (.inr l) = mpt mem e (setL d 8 l) := by
  funext j
  unfold mset
  by_cases h : j = 62
  · subst h; rfl
  · rw [if_neg h]
    unfold mpt
    split
    · rfl
    · split
      · rename_i h1 h2
        unfold mrow setL
        split <;> first | rfl | omega
      · rfl
theorem ms63 {mem : AM} (e d : ST) (l : List Int) : mset (mpt mem e d) 63 (.inr l) = mpt mem e (setL d 10 l) := by
  funext j
  unfold mset
  by_cases h : j = 63
  · subst h; rfl
  · rw [if_neg h]
    unfold mpt
    split
    · rfl
    · split
      · rename_i h1 h2
        unfold mrow setL
        split <;> first | rfl | omega
      · rfl
theorem ms64 {mem : AM} (e d : ST) (l : List Int) : mset (mpt mem e d) 64 (.inr l) = mpt mem e (setL d 9 l) := by
  funext j
  unfold mset
  by_cases h : j = 64
  · subst h; rfl
  · rw [if_neg h]
    unfold mpt
    split
    · rfl
    · split
      · rename_i h1 h2
        unfold mrow setL
        split <;> first | rfl | omega
      · rfl
/-- a block of the kept row holds a duchy -/
def KB (l : List Int) (b : Nat) (d : ST) : Prop := (∀ j, j < 6 → l.getD (b + 0 + j) 0 = (d.2 1).getD j 0) ∧ (∀ j, j < 6 → l.getD (b + 6 + j) 0 = (d.2 2).getD j 0) ∧ (∀ j, j < 6 → l.getD (b + 12 + j) 0 = (d.2 3).getD j 0) ∧ (∀ j, j < 6 → l.getD (b + 18 + j) 0 = (d.2 4).getD j 0) ∧ (∀ j, j < 36 → l.getD (b + 24 + j) 0 = (d.2 5).getD j 0) ∧ (∀ j, j < 8 → l.getD (b + 60 + j) 0 = (d.2 6).getD j 0) ∧ (∀ j, j < 8 → l.getD (b + 68 + j) 0 = (d.2 7).getD j 0) ∧ (∀ j, j < 8 → l.getD (b + 76 + j) 0 = (d.2 8).getD j 0) ∧ (∀ j, j < 8 → l.getD (b + 84 + j) 0 = (d.2 10).getD j 0) ∧ (∀ j, j < 8 → l.getD (b + 92 + j) 0 = (d.2 9).getD j 0) ∧ l.getD (b + 100) 0 = d.1 0 ∧ l.getD (b + 101) 0 = d.1 1 ∧ l.getD (b + 102) 0 = d.1 2
theorem KB_of {l l2 : List Int} {b : Nat} (h : KB l b d) (he : ∀ j, b ≤ j → j < b + 103 → l2.getD j 0 = l.getD j 0) : KB l2 b d := by
  obtain ⟨h1, h2, h3, h4, h5, h6, h7, h8, h9, h10, h11, h12, h13⟩ := h
  exact ⟨fun j hj => (he _ (by omega) (by omega)).trans (h1 j hj), fun j hj => (he _ (by omega) (by omega)).trans (h2 j hj), fun j hj => (he _ (by omega) (by omega)).trans (h3 j hj), fun j hj => (he _ (by omega) (by omega)).trans (h4 j hj), fun j hj => (he _ (by omega) (by omega)).trans (h5 j hj), fun j hj => (he _ (by omega) (by omega)).trans (h6 j hj), fun j hj => (he _ (by omega) (by omega)).trans (h7 j hj), fun j hj => (he _ (by omega) (by omega)).trans (h8 j hj), fun j hj => (he _ (by omega) (by omega)).trans (h9 j hj), fun j hj => (he _ (by omega) (by omega)).trans (h10 j hj), (he _ (by omega) (by omega)).trans h11, (he _ (by omega) (by omega)).trans h12, (he _ (by omega) (by omega)).trans h13⟩
/-- the kept row behind a keeping -/
def kA (l : List Int) (b : Nat) (d : ST) : List Int := (((itr (kF (d.2 9) (b + 92)) 8 0 (itr (kF (d.2 10) (b + 84)) 8 0 (itr (kF (d.2 8) (b + 76)) 8 0 (itr (kF (d.2 7) (b + 68)) 8 0 (itr (kF (d.2 6) (b + 60)) 8 0 (itr (kF (d.2 5) (b + 24)) 36 0 (itr (kF (d.2 4) (b + 18)) 6 0 (itr (kF (d.2 3) (b + 12)) 6 0 (itr (kF (d.2 2) (b + 6)) 6 0 (itr (kF (d.2 1) (b + 0)) 6 0 l)))))))))).set (b + 100) (d.1 0)).set (b + 101) (d.1 1)).set (b + 102) (d.1 2)
theorem kA_len (l : List Int) (b : Nat) : (kA l b d).length = l.length := by unfold kA; simp only [List.length_set, kF_len]
theorem kA_at (l : List Int) (hl : l.length = 309) (b : Nat) (hb : b + 103 ≤ 309) (j : Nat) : (kA l b d).getD j 0 = if j = b + 102 then d.1 2 else if j = b + 101 then d.1 1 else if j = b + 100 then d.1 0 else if b + 92 ≤ j ∧ j < b + 92 + 8 then (d.2 9).getD (j - (b + 92)) 0 else if b + 84 ≤ j ∧ j < b + 84 + 8 then (d.2 10).getD (j - (b + 84)) 0 else if b + 76 ≤ j ∧ j < b + 76 + 8 then (d.2 8).getD (j - (b + 76)) 0 else if b + 68 ≤ j ∧ j < b + 68 + 8 then (d.2 7).getD (j - (b + 68)) 0 else if b + 60 ≤ j ∧ j < b + 60 + 8 then (d.2 6).getD (j - (b + 60)) 0 else if b + 24 ≤ j ∧ j < b + 24 + 36 then (d.2 5).getD (j - (b + 24)) 0 else if b + 18 ≤ j ∧ j < b + 18 + 6 then (d.2 4).getD (j - (b + 18)) 0 else if b + 12 ≤ j ∧ j < b + 12 + 6 then (d.2 3).getD (j - (b + 12)) 0 else if b + 6 ≤ j ∧ j < b + 6 + 6 then (d.2 2).getD (j - (b + 6)) 0 else if b + 0 ≤ j ∧ j < b + 0 + 6 then (d.2 1).getD (j - (b + 0)) 0 else l.getD j 0 := by
  unfold kA
  rw [getD_set (by simp only [List.length_set, kF_len]; omega), getD_set (by simp only [List.length_set, kF_len]; omega), getD_set (by simp only [kF_len]; omega), kF_at _ _ _ _ (by (try simp only [kF_len]); omega), kF_at _ _ _ _ (by (try simp only [kF_len]); omega), kF_at _ _ _ _ (by (try simp only [kF_len]); omega), kF_at _ _ _ _ (by (try simp only [kF_len]); omega), kF_at _ _ _ _ (by (try simp only [kF_len]); omega), kF_at _ _ _ _ (by (try simp only [kF_len]); omega), kF_at _ _ _ _ (by (try simp only [kF_len]); omega), kF_at _ _ _ _ (by (try simp only [kF_len]); omega), kF_at _ _ _ _ (by (try simp only [kF_len]); omega), kF_at _ _ _ _ (by (try simp only [kF_len]); omega)]
theorem kA_KB (l : List Int) (hl : l.length = 309) (b : Nat) (hb : b + 103 ≤ 309) : KB (kA l b d) b d := by
  refine ⟨fun j hj => ?_, fun j hj => ?_, fun j hj => ?_, fun j hj => ?_, fun j hj => ?_, fun j hj => ?_, fun j hj => ?_, fun j hj => ?_, fun j hj => ?_, fun j hj => ?_, ?_, ?_, ?_⟩
  · rw [kA_at l hl b hb, if_neg (by omega), if_neg (by omega), if_neg (by omega), if_neg (by omega), if_neg (by omega), if_neg (by omega), if_neg (by omega), if_neg (by omega), if_neg (by omega), if_neg (by omega), if_neg (by omega), if_neg (by omega), if_pos (by omega)]
    congr 1
    omega
  · rw [kA_at l hl b hb, if_neg (by omega), if_neg (by omega), if_neg (by omega), if_neg (by omega), if_neg (by omega), if_neg (by omega), if_neg (by omega), if_neg (by omega), if_neg (by omega), if_neg (by omega), if_neg (by omega), if_pos (by omega)]
    congr 1
    omega
  · rw [kA_at l hl b hb, if_neg (by omega), if_neg (by omega), if_neg (by omega), if_neg (by omega), if_neg (by omega), if_neg (by omega), if_neg (by omega), if_neg (by omega), if_neg (by omega), if_neg (by omega), if_pos (by omega)]
    congr 1
    omega
  · rw [kA_at l hl b hb, if_neg (by omega), if_neg (by omega), if_neg (by omega), if_neg (by omega), if_neg (by omega), if_neg (by omega), if_neg (by omega), if_neg (by omega), if_neg (by omega), if_pos (by omega)]
    congr 1
    omega
  · rw [kA_at l hl b hb, if_neg (by omega), if_neg (by omega), if_neg (by omega), if_neg (by omega), if_neg (by omega), if_neg (by omega), if_neg (by omega), if_neg (by omega), if_pos (by omega)]
    congr 1
    omega
  · rw [kA_at l hl b hb, if_neg (by omega), if_neg (by omega), if_neg (by omega), if_neg (by omega), if_neg (by omega), if_neg (by omega), if_neg (by omega), if_pos (by omega)]
    congr 1
    omega
  · rw [kA_at l hl b hb, if_neg (by omega), if_neg (by omega), if_neg (by omega), if_neg (by omega), if_neg (by omega), if_neg (by omega), if_pos (by omega)]
    congr 1
    omega
  · rw [kA_at l hl b hb, if_neg (by omega), if_neg (by omega), if_neg (by omega), if_neg (by omega), if_neg (by omega), if_pos (by omega)]
    congr 1
    omega
  · rw [kA_at l hl b hb, if_neg (by omega), if_neg (by omega), if_neg (by omega), if_neg (by omega), if_pos (by omega)]
    congr 1
    omega
  · rw [kA_at l hl b hb, if_neg (by omega), if_neg (by omega), if_neg (by omega), if_pos (by omega)]
    congr 1
    omega
  · rw [kA_at l hl b hb, if_neg (by omega), if_neg (by omega), if_pos rfl]
  · rw [kA_at l hl b hb, if_neg (by omega), if_pos rfl]
  · rw [kA_at l hl b hb, if_pos rfl]
theorem kA_out (l : List Int) (hl : l.length = 309) (b : Nat) (hb : b + 103 ≤ 309) (j : Nat) (hj : j < b ∨ b + 103 ≤ j) : (kA l b d).getD j 0 = l.getD j 0 := by
  rw [kA_at l hl b hb, if_neg (by omega), if_neg (by omega), if_neg (by omega), if_neg (by omega), if_neg (by omega), if_neg (by omega), if_neg (by omega), if_neg (by omega), if_neg (by omega), if_neg (by omega), if_neg (by omega), if_neg (by omega), if_neg (by omega)]
theorem mpt_congr {e : ST} (h0 : d.1 0 = e.1 0) (h1 : d.1 1 = e.1 1) (h2 : d.1 2 = e.1 2) (h : ∀ k, 1 ≤ k → k ≤ 10 → d.2 k = e.2 k) : mpt mem g d = mpt mem g e := by
  funext j
  unfold mpt
  split
  · unfold mobj
    rw [h0, h1, h2]
  · split
    · unfold mrow
      split <;> first | rfl | rw [h _ (by decide) (by decide)]
    · rfl
theorem T5_keep0 (hL : DL d) (hl : (g.2 5).length = 309) : ev X m_X5_passesAll 0 [vR 53, vI 0, vI 1] [] (mpt mem g d) = some (none, mpt mem (gG g (kA (g.2 5) 0 d) 1 103) d) := by
  obtain ⟨l1, l2, l3, l4, l5, l6, l7, l8, l9, l10⟩ := hL
  have p55 := fun l hl => T5_passesK (X := X) (mem := mem) (g := g) (d := d) (a := 55) (row := d.2 1) (N := 6) (l := l) (off := 0) (z := vS) (fun _ => rfl) l1 (by decide) hl (by decide)
  have p56 := fun l hl => T5_passesK (X := X) (mem := mem) (g := g) (d := d) (a := 56) (row := d.2 2) (N := 6) (l := l) (off := 6) (z := vS) (fun _ => rfl) l2 (by decide) hl (by decide)
  have p57 := fun l hl => T5_passesK (X := X) (mem := mem) (g := g) (d := d) (a := 57) (row := d.2 3) (N := 6) (l := l) (off := 12) (z := vS) (fun _ => rfl) l3 (by decide) hl (by decide)
  have p58 := fun l hl => T5_passesK (X := X) (mem := mem) (g := g) (d := d) (a := 58) (row := d.2 4) (N := 6) (l := l) (off := 18) (z := vS) (fun _ => rfl) l4 (by decide) hl (by decide)
  have p59 := fun l hl => T5_passesK (X := X) (mem := mem) (g := g) (d := d) (a := 59) (row := d.2 5) (N := 36) (l := l) (off := 24) (z := vS) (fun _ => rfl) l5 (by decide) hl (by decide)
  have p60 := fun l hl => T5_passesK (X := X) (mem := mem) (g := g) (d := d) (a := 60) (row := d.2 6) (N := 8) (l := l) (off := 60) (z := vS) (fun _ => rfl) l6 (by decide) hl (by decide)
  have p61 := fun l hl => T5_passesK (X := X) (mem := mem) (g := g) (d := d) (a := 61) (row := d.2 7) (N := 8) (l := l) (off := 68) (z := vS) (fun _ => rfl) l7 (by decide) hl (by decide)
  have p62 := fun l hl => T5_passesK (X := X) (mem := mem) (g := g) (d := d) (a := 62) (row := d.2 8) (N := 8) (l := l) (off := 76) (z := vS) (fun _ => rfl) l8 (by decide) hl (by decide)
  have p63 := fun l hl => T5_passesK (X := X) (mem := mem) (g := g) (d := d) (a := 63) (row := d.2 10) (N := 8) (l := l) (off := 84) (z := vS) (fun _ => rfl) l10 (by decide) hl (by decide)
  have p64 := fun l hl => T5_passesK (X := X) (mem := mem) (g := g) (d := d) (a := 64) (row := d.2 9) (N := 8) (l := l) (off := 92) (z := vS) (fun _ => rfl) l9 (by decide) hl (by decide)
  have o0 := fun l hl => T5_passOneK (X := X) (mem := mem) (g := g) (d := d) (l := l) (c := 100) (v := d.1 0) (z := vS) hl (by decide)
  have o1 := fun l hl => T5_passOneK (X := X) (mem := mem) (g := g) (d := d) (l := l) (c := 101) (v := d.1 1) (z := vS) hl (by decide)
  have o2 := fun l hl => T5_passOneK (X := X) (mem := mem) (g := g) (d := d) (l := l) (c := 102) (v := d.1 2) (z := vS) hl (by decide)
  have s0 : setS (setS (setS d 0 (d.1 0)) 1 (d.1 1)) 2 (d.1 2) = d := ST_ext (fun j => by simp only [setS_1]; (repeat' split) <;> simp_all) (fun _ => rfl)
  have s1 : setS d 0 (d.1 0) = d := ST_ext (fun j => by simp only [setS_1]; split <;> simp_all) (fun _ => rfl)
  have s2 : setS d 1 (d.1 1) = d := ST_ext (fun j => by simp only [setS_1]; split <;> simp_all) (fun _ => rfl)
  have s3 : setS d 2 (d.1 2) = d := ST_ext (fun j => by simp only [setS_1]; split <;> simp_all) (fun _ => rfl)
  have w0 : w32 (103 * 0) = ((0 : Nat) : Int) := by decide
  have e0 : setS (setS g 5 ((0 : Nat) : Int)) 4 1 = gG g (g.2 5) 1 0 := by
    unfold gG
    refine ST_ext (fun j => ?_) (fun j => ?_)
    · simp only [setS_1, setL_1]
      (repeat' split) <;> first | rfl | omega
    · simp only [setS_2, setL_2]
      split <;> simp_all
  simp only [eX5_passesAll_0, eX5_passesAll_1, eX5_passesAll_3, eX5_passesAll_4, eX5_passesAll_5, eX5_passesAll_8, eX5_passesAll_9, eX5_passesAll_10, eX5_passesAll_13, eX5_passesAll_14, eX5_passesAll_15, eX5_passesAll_18, eX5_passesAll_21, eX5_passesAll_22, eX5_passesAll_23, eX5_passesAll_26, eX5_passesAll_29, eX5_passesAll_30, eX5_passesAll_31, eX5_passesAll_34, eX5_passesAll_37, eX5_passesAll_38, eX5_passesAll_39, eX5_passesAll_42, eX5_passesAll_45, eX5_passesAll_46, eX5_passesAll_47, eX5_passesAll_50, eX5_passesAll_53, eX5_passesAll_54, eX5_passesAll_55, eX5_passesAll_58, eX5_passesAll_61, eX5_passesAll_62, eX5_passesAll_63, eX5_passesAll_66, eX5_passesAll_69, eX5_passesAll_70, eX5_passesAll_71, eX5_passesAll_74, eX5_passesAll_77, eX5_passesAll_78, eX5_passesAll_79, eX5_passesAll_82, eX5_passesAll_85, eX5_passesAll_86, eX5_passesAll_87, eX5_passesAll_90, eX5_passesAll_93, eX5_passesAll_94, eX5_passesAll_95, eX5_passesAll_96, eX5_passesAll_99, eX5_passesAll_102, eX5_passesAll_105, eX5_passesAll_106, eX5_passesAll_107, eX5_passesAll_108, eX5_passesAll_111, eX5_passesAll_114, eX5_passesAll_117, eX5_passesAll_118, eX5_passesAll_119, eX5_passesAll_120, eX5_passesAll_123, eX5_passesAll_126, eX5_passesAll_129, evb_some, evm_some, evc_some, evc_none, gd, if_true, if_false, eq_self, and_self, and_true, true_and, ne_eq, not_false_eq_true, or_true, true_or, mg, mf0, mf1, mf2, mf3, mf4, mf5, mf6, mf7, mf8, mf9, mf10, mf11, mf12, mf13, mf14, mf15, mf16, mf17, mf18, mf19, mf20, mf21, mf22, mf23, mf24, mf25, mf26, mf27, mw11, mw12, mw13, mw18, mw19, mw20, mw22, mw23, mw24, mw27, mx54, mx55, mx56, mx57, mx58, mx59, mx60, mx61, mx62, mx63, mx64, mx65, mx66, mx67, mx68, mx69, mx70, mx71, w0, e0, p55, p56, p57, p58, p59, p60, p61, p62, p63, p64, o0, o1, o2, kF_len, List.length_set, hl, Nat.reduceAdd, s1, s2, s3]
  rfl
theorem T5_back0 {d0 : ST} (hL : DL d) (hL0 : DL d0) (hl : (g.2 5).length = 309) (hK : KB (g.2 5) 0 d0) : ev X m_X5_passesAll 0 [vR 53, vI 0, vI 0] [] (mpt mem g d) = some (none, mpt mem (gG g (g.2 5) 0 103) d0) := by
  obtain ⟨l1, l2, l3, l4, l5, l6, l7, l8, l9, l10⟩ := hL
  obtain ⟨m1, m2, m3, m4, m5, m6, m7, m8, m9, m10⟩ := hL0
  obtain ⟨k1, k2, k3, k4, k5, k6, k7, k8, k9, k10, k11, k12, k13⟩ := hK
  have p55 := fun (e : ST) (he : (e.2 1).length = 6) => T5_passesB (X := X) (mem := mem) (g := g) (d := e) (a := 55) (i := 1) (N := 6) (l := g.2 5) (off := 0) (z := vS) (fun _ _ => rfl) ms55 he (by decide) hl (by decide)
  have r55 : ∀ e : ST, (e.2 1).length = 6 → itr (rF (g.2 5) 0) 6 0 (e.2 1) = d0.2 1 := fun e he => by
    have h := rF_eq (g.2 5) 0 (e.2 1) (d0.2 1) (by omega) (fun j hj => k1 j (by omega))
    rw [m1] at h
    exact h
  have p56 := fun (e : ST) (he : (e.2 2).length = 6) => T5_passesB (X := X) (mem := mem) (g := g) (d := e) (a := 56) (i := 2) (N := 6) (l := g.2 5) (off := 6) (z := vS) (fun _ _ => rfl) ms56 he (by decide) hl (by decide)
  have r56 : ∀ e : ST, (e.2 2).length = 6 → itr (rF (g.2 5) 6) 6 0 (e.2 2) = d0.2 2 := fun e he => by
    have h := rF_eq (g.2 5) 6 (e.2 2) (d0.2 2) (by omega) (fun j hj => k2 j (by omega))
    rw [m2] at h
    exact h
  have p57 := fun (e : ST) (he : (e.2 3).length = 6) => T5_passesB (X := X) (mem := mem) (g := g) (d := e) (a := 57) (i := 3) (N := 6) (l := g.2 5) (off := 12) (z := vS) (fun _ _ => rfl) ms57 he (by decide) hl (by decide)
  have r57 : ∀ e : ST, (e.2 3).length = 6 → itr (rF (g.2 5) 12) 6 0 (e.2 3) = d0.2 3 := fun e he => by
    have h := rF_eq (g.2 5) 12 (e.2 3) (d0.2 3) (by omega) (fun j hj => k3 j (by omega))
    rw [m3] at h
    exact h
  have p58 := fun (e : ST) (he : (e.2 4).length = 6) => T5_passesB (X := X) (mem := mem) (g := g) (d := e) (a := 58) (i := 4) (N := 6) (l := g.2 5) (off := 18) (z := vS) (fun _ _ => rfl) ms58 he (by decide) hl (by decide)
  have r58 : ∀ e : ST, (e.2 4).length = 6 → itr (rF (g.2 5) 18) 6 0 (e.2 4) = d0.2 4 := fun e he => by
    have h := rF_eq (g.2 5) 18 (e.2 4) (d0.2 4) (by omega) (fun j hj => k4 j (by omega))
    rw [m4] at h
    exact h
  have p59 := fun (e : ST) (he : (e.2 5).length = 36) => T5_passesB (X := X) (mem := mem) (g := g) (d := e) (a := 59) (i := 5) (N := 36) (l := g.2 5) (off := 24) (z := vS) (fun _ _ => rfl) ms59 he (by decide) hl (by decide)
  have r59 : ∀ e : ST, (e.2 5).length = 36 → itr (rF (g.2 5) 24) 36 0 (e.2 5) = d0.2 5 := fun e he => by
    have h := rF_eq (g.2 5) 24 (e.2 5) (d0.2 5) (by omega) (fun j hj => k5 j (by omega))
    rw [m5] at h
    exact h
  have p60 := fun (e : ST) (he : (e.2 6).length = 8) => T5_passesB (X := X) (mem := mem) (g := g) (d := e) (a := 60) (i := 6) (N := 8) (l := g.2 5) (off := 60) (z := vS) (fun _ _ => rfl) ms60 he (by decide) hl (by decide)
  have r60 : ∀ e : ST, (e.2 6).length = 8 → itr (rF (g.2 5) 60) 8 0 (e.2 6) = d0.2 6 := fun e he => by
    have h := rF_eq (g.2 5) 60 (e.2 6) (d0.2 6) (by omega) (fun j hj => k6 j (by omega))
    rw [m6] at h
    exact h
  have p61 := fun (e : ST) (he : (e.2 7).length = 8) => T5_passesB (X := X) (mem := mem) (g := g) (d := e) (a := 61) (i := 7) (N := 8) (l := g.2 5) (off := 68) (z := vS) (fun _ _ => rfl) ms61 he (by decide) hl (by decide)
  have r61 : ∀ e : ST, (e.2 7).length = 8 → itr (rF (g.2 5) 68) 8 0 (e.2 7) = d0.2 7 := fun e he => by
    have h := rF_eq (g.2 5) 68 (e.2 7) (d0.2 7) (by omega) (fun j hj => k7 j (by omega))
    rw [m7] at h
    exact h
  have p62 := fun (e : ST) (he : (e.2 8).length = 8) => T5_passesB (X := X) (mem := mem) (g := g) (d := e) (a := 62) (i := 8) (N := 8) (l := g.2 5) (off := 76) (z := vS) (fun _ _ => rfl) ms62 he (by decide) hl (by decide)
  have r62 : ∀ e : ST, (e.2 8).length = 8 → itr (rF (g.2 5) 76) 8 0 (e.2 8) = d0.2 8 := fun e he => by
    have h := rF_eq (g.2 5) 76 (e.2 8) (d0.2 8) (by omega) (fun j hj => k8 j (by omega))
    rw [m8] at h
    exact h
  have p63 := fun (e : ST) (he : (e.2 10).length = 8) => T5_passesB (X := X) (mem := mem) (g := g) (d := e) (a := 63) (i := 10) (N := 8) (l := g.2 5) (off := 84) (z := vS) (fun _ _ => rfl) ms63 he (by decide) hl (by decide)
  have r63 : ∀ e : ST, (e.2 10).length = 8 → itr (rF (g.2 5) 84) 8 0 (e.2 10) = d0.2 10 := fun e he => by
    have h := rF_eq (g.2 5) 84 (e.2 10) (d0.2 10) (by omega) (fun j hj => k9 j (by omega))
    rw [m10] at h
    exact h
  have p64 := fun (e : ST) (he : (e.2 9).length = 8) => T5_passesB (X := X) (mem := mem) (g := g) (d := e) (a := 64) (i := 9) (N := 8) (l := g.2 5) (off := 92) (z := vS) (fun _ _ => rfl) ms64 he (by decide) hl (by decide)
  have r64 : ∀ e : ST, (e.2 9).length = 8 → itr (rF (g.2 5) 92) 8 0 (e.2 9) = d0.2 9 := fun e he => by
    have h := rF_eq (g.2 5) 92 (e.2 9) (d0.2 9) (by omega) (fun j hj => k10 j (by omega))
    rw [m9] at h
    exact h
  have o0 := fun (e : ST) v => T5_passOneB (X := X) (mem := mem) (g := g) (d := e) (l := g.2 5) (c := 100) (v := v) (z := vS) hl (by decide)
  have o1 := fun (e : ST) v => T5_passOneB (X := X) (mem := mem) (g := g) (d := e) (l := g.2 5) (c := 101) (v := v) (z := vS) hl (by decide)
  have o2 := fun (e : ST) v => T5_passOneB (X := X) (mem := mem) (g := g) (d := e) (l := g.2 5) (c := 102) (v := v) (z := vS) hl (by decide)
  have w0 : w32 (103 * 0) = ((0 : Nat) : Int) := by decide
  have e0 : setS (setS g 5 ((0 : Nat) : Int)) 4 0 = gG g (g.2 5) 0 0 := by
    unfold gG
    refine ST_ext (fun j => ?_) (fun j => ?_)
    · simp only [setS_1, setL_1]
      (repeat' split) <;> first | rfl | omega
    · simp only [setS_2, setL_2]
      split <;> simp_all
  simp only [eX5_passesAll_0, eX5_passesAll_1, eX5_passesAll_3, eX5_passesAll_4, eX5_passesAll_5, eX5_passesAll_8, eX5_passesAll_9, eX5_passesAll_10, eX5_passesAll_13, eX5_passesAll_14, eX5_passesAll_15, eX5_passesAll_18, eX5_passesAll_21, eX5_passesAll_22, eX5_passesAll_23, eX5_passesAll_26, eX5_passesAll_29, eX5_passesAll_30, eX5_passesAll_31, eX5_passesAll_34, eX5_passesAll_37, eX5_passesAll_38, eX5_passesAll_39, eX5_passesAll_42, eX5_passesAll_45, eX5_passesAll_46, eX5_passesAll_47, eX5_passesAll_50, eX5_passesAll_53, eX5_passesAll_54, eX5_passesAll_55, eX5_passesAll_58, eX5_passesAll_61, eX5_passesAll_62, eX5_passesAll_63, eX5_passesAll_66, eX5_passesAll_69, eX5_passesAll_70, eX5_passesAll_71, eX5_passesAll_74, eX5_passesAll_77, eX5_passesAll_78, eX5_passesAll_79, eX5_passesAll_82, eX5_passesAll_85, eX5_passesAll_86, eX5_passesAll_87, eX5_passesAll_90, eX5_passesAll_93, eX5_passesAll_94, eX5_passesAll_95, eX5_passesAll_96, eX5_passesAll_99, eX5_passesAll_102, eX5_passesAll_105, eX5_passesAll_106, eX5_passesAll_107, eX5_passesAll_108, eX5_passesAll_111, eX5_passesAll_114, eX5_passesAll_117, eX5_passesAll_118, eX5_passesAll_119, eX5_passesAll_120, eX5_passesAll_123, eX5_passesAll_126, eX5_passesAll_129, evb_some, evm_some, evc_some, evc_none, gd, if_true, if_false, eq_self, and_self, and_true, true_and, ne_eq, not_false_eq_true, or_true, true_or, mg, mf0, mf1, mf2, mf3, mf4, mf5, mf6, mf7, mf8, mf9, mf10, mf11, mf12, mf13, mf14, mf15, mf16, mf17, mf18, mf19, mf20, mf21, mf22, mf23, mf24, mf25, mf26, mf27, mw11, mw12, mw13, mw18, mw19, mw20, mw22, mw23, mw24, mw27, mx54, mx55, mx56, mx57, mx58, mx59, mx60, mx61, mx62, mx63, mx64, mx65, mx66, mx67, mx68, mx69, mx70, mx71, setS_1, setS_2, setL_1, setL_2, Nat.reduceEqDiff, ↓reduceIte, List.length_set, w0, e0, p55, r55, p56, r56, p57, r57, p58, r58, p59, r59, p60, r60, p61, r61, p62, r62, p63, r63, p64, r64, o0, o1, o2, l1, l2, l3, l4, l5, l6, l7, l8, l9, l10, Nat.reduceAdd]
  refine congrArg some (Prod.ext rfl (mpt_congr ?_ ?_ ?_ fun k h1 h2 => ?_))
  · exact k11
  · exact k12
  · exact k13
  · rcases (show k = 1 ∨ k = 2 ∨ k = 3 ∨ k = 4 ∨ k = 5 ∨ k = 6 ∨ k = 7 ∨ k = 8 ∨ k = 9 ∨ k = 10 by omega) with rfl | rfl | rfl | rfl | rfl | rfl | rfl | rfl | rfl | rfl <;> rfl
theorem T5_keep1 (hL : DL d) (hl : (g.2 5).length = 309) : ev X m_X5_passesAll 0 [vR 53, vI 1, vI 1] [] (mpt mem g d) = some (none, mpt mem (gG g (kA (g.2 5) 103 d) 1 206) d) := by
  obtain ⟨l1, l2, l3, l4, l5, l6, l7, l8, l9, l10⟩ := hL
  have p55 := fun l hl => T5_passesK (X := X) (mem := mem) (g := g) (d := d) (a := 55) (row := d.2 1) (N := 6) (l := l) (off := 103) (z := vS) (fun _ => rfl) l1 (by decide) hl (by decide)
  have p56 := fun l hl => T5_passesK (X := X) (mem := mem) (g := g) (d := d) (a := 56) (row := d.2 2) (N := 6) (l := l) (off := 109) (z := vS) (fun _ => rfl) l2 (by decide) hl (by decide)
  have p57 := fun l hl => T5_passesK (X := X) (mem := mem) (g := g) (d := d) (a := 57) (row := d.2 3) (N := 6) (l := l) (off := 115) (z := vS) (fun _ => rfl) l3 (by decide) hl (by decide)
  have p58 := fun l hl => T5_passesK (X := X) (mem := mem) (g := g) (d := d) (a := 58) (row := d.2 4) (N := 6) (l := l) (off := 121) (z := vS) (fun _ => rfl) l4 (by decide) hl (by decide)
  have p59 := fun l hl => T5_passesK (X := X) (mem := mem) (g := g) (d := d) (a := 59) (row := d.2 5) (N := 36) (l := l) (off := 127) (z := vS) (fun _ => rfl) l5 (by decide) hl (by decide)
  have p60 := fun l hl => T5_passesK (X := X) (mem := mem) (g := g) (d := d) (a := 60) (row := d.2 6) (N := 8) (l := l) (off := 163) (z := vS) (fun _ => rfl) l6 (by decide) hl (by decide)
  have p61 := fun l hl => T5_passesK (X := X) (mem := mem) (g := g) (d := d) (a := 61) (row := d.2 7) (N := 8) (l := l) (off := 171) (z := vS) (fun _ => rfl) l7 (by decide) hl (by decide)
  have p62 := fun l hl => T5_passesK (X := X) (mem := mem) (g := g) (d := d) (a := 62) (row := d.2 8) (N := 8) (l := l) (off := 179) (z := vS) (fun _ => rfl) l8 (by decide) hl (by decide)
  have p63 := fun l hl => T5_passesK (X := X) (mem := mem) (g := g) (d := d) (a := 63) (row := d.2 10) (N := 8) (l := l) (off := 187) (z := vS) (fun _ => rfl) l10 (by decide) hl (by decide)
  have p64 := fun l hl => T5_passesK (X := X) (mem := mem) (g := g) (d := d) (a := 64) (row := d.2 9) (N := 8) (l := l) (off := 195) (z := vS) (fun _ => rfl) l9 (by decide) hl (by decide)
  have o0 := fun l hl => T5_passOneK (X := X) (mem := mem) (g := g) (d := d) (l := l) (c := 203) (v := d.1 0) (z := vS) hl (by decide)
  have o1 := fun l hl => T5_passOneK (X := X) (mem := mem) (g := g) (d := d) (l := l) (c := 204) (v := d.1 1) (z := vS) hl (by decide)
  have o2 := fun l hl => T5_passOneK (X := X) (mem := mem) (g := g) (d := d) (l := l) (c := 205) (v := d.1 2) (z := vS) hl (by decide)
  have s0 : setS (setS (setS d 0 (d.1 0)) 1 (d.1 1)) 2 (d.1 2) = d := ST_ext (fun j => by simp only [setS_1]; (repeat' split) <;> simp_all) (fun _ => rfl)
  have s1 : setS d 0 (d.1 0) = d := ST_ext (fun j => by simp only [setS_1]; split <;> simp_all) (fun _ => rfl)
  have s2 : setS d 1 (d.1 1) = d := ST_ext (fun j => by simp only [setS_1]; split <;> simp_all) (fun _ => rfl)
  have s3 : setS d 2 (d.1 2) = d := ST_ext (fun j => by simp only [setS_1]; split <;> simp_all) (fun _ => rfl)
  have w0 : w32 (103 * 1) = ((103 : Nat) : Int) := by decide
  have e0 : setS (setS g 5 ((103 : Nat) : Int)) 4 1 = gG g (g.2 5) 1 103 := by
    unfold gG
    refine ST_ext (fun j => ?_) (fun j => ?_)
    · simp only [setS_1, setL_1]
      (repeat' split) <;> first | rfl | omega
    · simp only [setS_2, setL_2]
      split <;> simp_all
  simp only [eX5_passesAll_0, eX5_passesAll_1, eX5_passesAll_3, eX5_passesAll_4, eX5_passesAll_5, eX5_passesAll_8, eX5_passesAll_9, eX5_passesAll_10, eX5_passesAll_13, eX5_passesAll_14, eX5_passesAll_15, eX5_passesAll_18, eX5_passesAll_21, eX5_passesAll_22, eX5_passesAll_23, eX5_passesAll_26, eX5_passesAll_29, eX5_passesAll_30, eX5_passesAll_31, eX5_passesAll_34, eX5_passesAll_37, eX5_passesAll_38, eX5_passesAll_39, eX5_passesAll_42, eX5_passesAll_45, eX5_passesAll_46, eX5_passesAll_47, eX5_passesAll_50, eX5_passesAll_53, eX5_passesAll_54, eX5_passesAll_55, eX5_passesAll_58, eX5_passesAll_61, eX5_passesAll_62, eX5_passesAll_63, eX5_passesAll_66, eX5_passesAll_69, eX5_passesAll_70, eX5_passesAll_71, eX5_passesAll_74, eX5_passesAll_77, eX5_passesAll_78, eX5_passesAll_79, eX5_passesAll_82, eX5_passesAll_85, eX5_passesAll_86, eX5_passesAll_87, eX5_passesAll_90, eX5_passesAll_93, eX5_passesAll_94, eX5_passesAll_95, eX5_passesAll_96, eX5_passesAll_99, eX5_passesAll_102, eX5_passesAll_105, eX5_passesAll_106, eX5_passesAll_107, eX5_passesAll_108, eX5_passesAll_111, eX5_passesAll_114, eX5_passesAll_117, eX5_passesAll_118, eX5_passesAll_119, eX5_passesAll_120, eX5_passesAll_123, eX5_passesAll_126, eX5_passesAll_129, evb_some, evm_some, evc_some, evc_none, gd, if_true, if_false, eq_self, and_self, and_true, true_and, ne_eq, not_false_eq_true, or_true, true_or, mg, mf0, mf1, mf2, mf3, mf4, mf5, mf6, mf7, mf8, mf9, mf10, mf11, mf12, mf13, mf14, mf15, mf16, mf17, mf18, mf19, mf20, mf21, mf22, mf23, mf24, mf25, mf26, mf27, mw11, mw12, mw13, mw18, mw19, mw20, mw22, mw23, mw24, mw27, mx54, mx55, mx56, mx57, mx58, mx59, mx60, mx61, mx62, mx63, mx64, mx65, mx66, mx67, mx68, mx69, mx70, mx71, w0, e0, p55, p56, p57, p58, p59, p60, p61, p62, p63, p64, o0, o1, o2, kF_len, List.length_set, hl, Nat.reduceAdd, s1, s2, s3]
  rfl
theorem T5_back1 {d0 : ST} (hL : DL d) (hL0 : DL d0) (hl : (g.2 5).length = 309) (hK : KB (g.2 5) 103 d0) : ev X m_X5_passesAll 0 [vR 53, vI 1, vI 0] [] (mpt mem g d) = some (none, mpt mem (gG g (g.2 5) 0 206) d0) := by
  obtain ⟨l1, l2, l3, l4, l5, l6, l7, l8, l9, l10⟩ := hL
  obtain ⟨m1, m2, m3, m4, m5, m6, m7, m8, m9, m10⟩ := hL0
  obtain ⟨k1, k2, k3, k4, k5, k6, k7, k8, k9, k10, k11, k12, k13⟩ := hK
  have p55 := fun (e : ST) (he : (e.2 1).length = 6) => T5_passesB (X := X) (mem := mem) (g := g) (d := e) (a := 55) (i := 1) (N := 6) (l := g.2 5) (off := 103) (z := vS) (fun _ _ => rfl) ms55 he (by decide) hl (by decide)
  have r55 : ∀ e : ST, (e.2 1).length = 6 → itr (rF (g.2 5) 103) 6 0 (e.2 1) = d0.2 1 := fun e he => by
    have h := rF_eq (g.2 5) 103 (e.2 1) (d0.2 1) (by omega) (fun j hj => k1 j (by omega))
    rw [m1] at h
    exact h
  have p56 := fun (e : ST) (he : (e.2 2).length = 6) => T5_passesB (X := X) (mem := mem) (g := g) (d := e) (a := 56) (i := 2) (N := 6) (l := g.2 5) (off := 109) (z := vS) (fun _ _ => rfl) ms56 he (by decide) hl (by decide)
  have r56 : ∀ e : ST, (e.2 2).length = 6 → itr (rF (g.2 5) 109) 6 0 (e.2 2) = d0.2 2 := fun e he => by
    have h := rF_eq (g.2 5) 109 (e.2 2) (d0.2 2) (by omega) (fun j hj => k2 j (by omega))
    rw [m2] at h
    exact h
  have p57 := fun (e : ST) (he : (e.2 3).length = 6) => T5_passesB (X := X) (mem := mem) (g := g) (d := e) (a := 57) (i := 3) (N := 6) (l := g.2 5) (off := 115) (z := vS) (fun _ _ => rfl) ms57 he (by decide) hl (by decide)
  have r57 : ∀ e : ST, (e.2 3).length = 6 → itr (rF (g.2 5) 115) 6 0 (e.2 3) = d0.2 3 := fun e he => by
    have h := rF_eq (g.2 5) 115 (e.2 3) (d0.2 3) (by omega) (fun j hj => k3 j (by omega))
    rw [m3] at h
    exact h
  have p58 := fun (e : ST) (he : (e.2 4).length = 6) => T5_passesB (X := X) (mem := mem) (g := g) (d := e) (a := 58) (i := 4) (N := 6) (l := g.2 5) (off := 121) (z := vS) (fun _ _ => rfl) ms58 he (by decide) hl (by decide)
  have r58 : ∀ e : ST, (e.2 4).length = 6 → itr (rF (g.2 5) 121) 6 0 (e.2 4) = d0.2 4 := fun e he => by
    have h := rF_eq (g.2 5) 121 (e.2 4) (d0.2 4) (by omega) (fun j hj => k4 j (by omega))
    rw [m4] at h
    exact h
  have p59 := fun (e : ST) (he : (e.2 5).length = 36) => T5_passesB (X := X) (mem := mem) (g := g) (d := e) (a := 59) (i := 5) (N := 36) (l := g.2 5) (off := 127) (z := vS) (fun _ _ => rfl) ms59 he (by decide) hl (by decide)
  have r59 : ∀ e : ST, (e.2 5).length = 36 → itr (rF (g.2 5) 127) 36 0 (e.2 5) = d0.2 5 := fun e he => by
    have h := rF_eq (g.2 5) 127 (e.2 5) (d0.2 5) (by omega) (fun j hj => k5 j (by omega))
    rw [m5] at h
    exact h
  have p60 := fun (e : ST) (he : (e.2 6).length = 8) => T5_passesB (X := X) (mem := mem) (g := g) (d := e) (a := 60) (i := 6) (N := 8) (l := g.2 5) (off := 163) (z := vS) (fun _ _ => rfl) ms60 he (by decide) hl (by decide)
  have r60 : ∀ e : ST, (e.2 6).length = 8 → itr (rF (g.2 5) 163) 8 0 (e.2 6) = d0.2 6 := fun e he => by
    have h := rF_eq (g.2 5) 163 (e.2 6) (d0.2 6) (by omega) (fun j hj => k6 j (by omega))
    rw [m6] at h
    exact h
  have p61 := fun (e : ST) (he : (e.2 7).length = 8) => T5_passesB (X := X) (mem := mem) (g := g) (d := e) (a := 61) (i := 7) (N := 8) (l := g.2 5) (off := 171) (z := vS) (fun _ _ => rfl) ms61 he (by decide) hl (by decide)
  have r61 : ∀ e : ST, (e.2 7).length = 8 → itr (rF (g.2 5) 171) 8 0 (e.2 7) = d0.2 7 := fun e he => by
    have h := rF_eq (g.2 5) 171 (e.2 7) (d0.2 7) (by omega) (fun j hj => k7 j (by omega))
    rw [m7] at h
    exact h
  have p62 := fun (e : ST) (he : (e.2 8).length = 8) => T5_passesB (X := X) (mem := mem) (g := g) (d := e) (a := 62) (i := 8) (N := 8) (l := g.2 5) (off := 179) (z := vS) (fun _ _ => rfl) ms62 he (by decide) hl (by decide)
  have r62 : ∀ e : ST, (e.2 8).length = 8 → itr (rF (g.2 5) 179) 8 0 (e.2 8) = d0.2 8 := fun e he => by
    have h := rF_eq (g.2 5) 179 (e.2 8) (d0.2 8) (by omega) (fun j hj => k8 j (by omega))
    rw [m8] at h
    exact h
  have p63 := fun (e : ST) (he : (e.2 10).length = 8) => T5_passesB (X := X) (mem := mem) (g := g) (d := e) (a := 63) (i := 10) (N := 8) (l := g.2 5) (off := 187) (z := vS) (fun _ _ => rfl) ms63 he (by decide) hl (by decide)
  have r63 : ∀ e : ST, (e.2 10).length = 8 → itr (rF (g.2 5) 187) 8 0 (e.2 10) = d0.2 10 := fun e he => by
    have h := rF_eq (g.2 5) 187 (e.2 10) (d0.2 10) (by omega) (fun j hj => k9 j (by omega))
    rw [m10] at h
    exact h
  have p64 := fun (e : ST) (he : (e.2 9).length = 8) => T5_passesB (X := X) (mem := mem) (g := g) (d := e) (a := 64) (i := 9) (N := 8) (l := g.2 5) (off := 195) (z := vS) (fun _ _ => rfl) ms64 he (by decide) hl (by decide)
  have r64 : ∀ e : ST, (e.2 9).length = 8 → itr (rF (g.2 5) 195) 8 0 (e.2 9) = d0.2 9 := fun e he => by
    have h := rF_eq (g.2 5) 195 (e.2 9) (d0.2 9) (by omega) (fun j hj => k10 j (by omega))
    rw [m9] at h
    exact h
  have o0 := fun (e : ST) v => T5_passOneB (X := X) (mem := mem) (g := g) (d := e) (l := g.2 5) (c := 203) (v := v) (z := vS) hl (by decide)
  have o1 := fun (e : ST) v => T5_passOneB (X := X) (mem := mem) (g := g) (d := e) (l := g.2 5) (c := 204) (v := v) (z := vS) hl (by decide)
  have o2 := fun (e : ST) v => T5_passOneB (X := X) (mem := mem) (g := g) (d := e) (l := g.2 5) (c := 205) (v := v) (z := vS) hl (by decide)
  have w0 : w32 (103 * 1) = ((103 : Nat) : Int) := by decide
  have e0 : setS (setS g 5 ((103 : Nat) : Int)) 4 0 = gG g (g.2 5) 0 103 := by
    unfold gG
    refine ST_ext (fun j => ?_) (fun j => ?_)
    · simp only [setS_1, setL_1]
      (repeat' split) <;> first | rfl | omega
    · simp only [setS_2, setL_2]
      split <;> simp_all
  simp only [eX5_passesAll_0, eX5_passesAll_1, eX5_passesAll_3, eX5_passesAll_4, eX5_passesAll_5, eX5_passesAll_8, eX5_passesAll_9, eX5_passesAll_10, eX5_passesAll_13, eX5_passesAll_14, eX5_passesAll_15, eX5_passesAll_18, eX5_passesAll_21, eX5_passesAll_22, eX5_passesAll_23, eX5_passesAll_26, eX5_passesAll_29, eX5_passesAll_30, eX5_passesAll_31, eX5_passesAll_34, eX5_passesAll_37, eX5_passesAll_38, eX5_passesAll_39, eX5_passesAll_42, eX5_passesAll_45, eX5_passesAll_46, eX5_passesAll_47, eX5_passesAll_50, eX5_passesAll_53, eX5_passesAll_54, eX5_passesAll_55, eX5_passesAll_58, eX5_passesAll_61, eX5_passesAll_62, eX5_passesAll_63, eX5_passesAll_66, eX5_passesAll_69, eX5_passesAll_70, eX5_passesAll_71, eX5_passesAll_74, eX5_passesAll_77, eX5_passesAll_78, eX5_passesAll_79, eX5_passesAll_82, eX5_passesAll_85, eX5_passesAll_86, eX5_passesAll_87, eX5_passesAll_90, eX5_passesAll_93, eX5_passesAll_94, eX5_passesAll_95, eX5_passesAll_96, eX5_passesAll_99, eX5_passesAll_102, eX5_passesAll_105, eX5_passesAll_106, eX5_passesAll_107, eX5_passesAll_108, eX5_passesAll_111, eX5_passesAll_114, eX5_passesAll_117, eX5_passesAll_118, eX5_passesAll_119, eX5_passesAll_120, eX5_passesAll_123, eX5_passesAll_126, eX5_passesAll_129, evb_some, evm_some, evc_some, evc_none, gd, if_true, if_false, eq_self, and_self, and_true, true_and, ne_eq, not_false_eq_true, or_true, true_or, mg, mf0, mf1, mf2, mf3, mf4, mf5, mf6, mf7, mf8, mf9, mf10, mf11, mf12, mf13, mf14, mf15, mf16, mf17, mf18, mf19, mf20, mf21, mf22, mf23, mf24, mf25, mf26, mf27, mw11, mw12, mw13, mw18, mw19, mw20, mw22, mw23, mw24, mw27, mx54, mx55, mx56, mx57, mx58, mx59, mx60, mx61, mx62, mx63, mx64, mx65, mx66, mx67, mx68, mx69, mx70, mx71, setS_1, setS_2, setL_1, setL_2, Nat.reduceEqDiff, ↓reduceIte, List.length_set, w0, e0, p55, r55, p56, r56, p57, r57, p58, r58, p59, r59, p60, r60, p61, r61, p62, r62, p63, r63, p64, r64, o0, o1, o2, l1, l2, l3, l4, l5, l6, l7, l8, l9, l10, Nat.reduceAdd]
  refine congrArg some (Prod.ext rfl (mpt_congr ?_ ?_ ?_ fun k h1 h2 => ?_))
  · exact k11
  · exact k12
  · exact k13
  · rcases (show k = 1 ∨ k = 2 ∨ k = 3 ∨ k = 4 ∨ k = 5 ∨ k = 6 ∨ k = 7 ∨ k = 8 ∨ k = 9 ∨ k = 10 by omega) with rfl | rfl | rfl | rfl | rfl | rfl | rfl | rfl | rfl | rfl <;> rfl
theorem T5_keep2 (hL : DL d) (hl : (g.2 5).length = 309) : ev X m_X5_passesAll 0 [vR 53, vI 2, vI 1] [] (mpt mem g d) = some (none, mpt mem (gG g (kA (g.2 5) 206 d) 1 309) d) := by
  obtain ⟨l1, l2, l3, l4, l5, l6, l7, l8, l9, l10⟩ := hL
  have p55 := fun l hl => T5_passesK (X := X) (mem := mem) (g := g) (d := d) (a := 55) (row := d.2 1) (N := 6) (l := l) (off := 206) (z := vS) (fun _ => rfl) l1 (by decide) hl (by decide)
  have p56 := fun l hl => T5_passesK (X := X) (mem := mem) (g := g) (d := d) (a := 56) (row := d.2 2) (N := 6) (l := l) (off := 212) (z := vS) (fun _ => rfl) l2 (by decide) hl (by decide)
  have p57 := fun l hl => T5_passesK (X := X) (mem := mem) (g := g) (d := d) (a := 57) (row := d.2 3) (N := 6) (l := l) (off := 218) (z := vS) (fun _ => rfl) l3 (by decide) hl (by decide)
  have p58 := fun l hl => T5_passesK (X := X) (mem := mem) (g := g) (d := d) (a := 58) (row := d.2 4) (N := 6) (l := l) (off := 224) (z := vS) (fun _ => rfl) l4 (by decide) hl (by decide)
  have p59 := fun l hl => T5_passesK (X := X) (mem := mem) (g := g) (d := d) (a := 59) (row := d.2 5) (N := 36) (l := l) (off := 230) (z := vS) (fun _ => rfl) l5 (by decide) hl (by decide)
  have p60 := fun l hl => T5_passesK (X := X) (mem := mem) (g := g) (d := d) (a := 60) (row := d.2 6) (N := 8) (l := l) (off := 266) (z := vS) (fun _ => rfl) l6 (by decide) hl (by decide)
  have p61 := fun l hl => T5_passesK (X := X) (mem := mem) (g := g) (d := d) (a := 61) (row := d.2 7) (N := 8) (l := l) (off := 274) (z := vS) (fun _ => rfl) l7 (by decide) hl (by decide)
  have p62 := fun l hl => T5_passesK (X := X) (mem := mem) (g := g) (d := d) (a := 62) (row := d.2 8) (N := 8) (l := l) (off := 282) (z := vS) (fun _ => rfl) l8 (by decide) hl (by decide)
  have p63 := fun l hl => T5_passesK (X := X) (mem := mem) (g := g) (d := d) (a := 63) (row := d.2 10) (N := 8) (l := l) (off := 290) (z := vS) (fun _ => rfl) l10 (by decide) hl (by decide)
  have p64 := fun l hl => T5_passesK (X := X) (mem := mem) (g := g) (d := d) (a := 64) (row := d.2 9) (N := 8) (l := l) (off := 298) (z := vS) (fun _ => rfl) l9 (by decide) hl (by decide)
  have o0 := fun l hl => T5_passOneK (X := X) (mem := mem) (g := g) (d := d) (l := l) (c := 306) (v := d.1 0) (z := vS) hl (by decide)
  have o1 := fun l hl => T5_passOneK (X := X) (mem := mem) (g := g) (d := d) (l := l) (c := 307) (v := d.1 1) (z := vS) hl (by decide)
  have o2 := fun l hl => T5_passOneK (X := X) (mem := mem) (g := g) (d := d) (l := l) (c := 308) (v := d.1 2) (z := vS) hl (by decide)
  have s0 : setS (setS (setS d 0 (d.1 0)) 1 (d.1 1)) 2 (d.1 2) = d := ST_ext (fun j => by simp only [setS_1]; (repeat' split) <;> simp_all) (fun _ => rfl)
  have s1 : setS d 0 (d.1 0) = d := ST_ext (fun j => by simp only [setS_1]; split <;> simp_all) (fun _ => rfl)
  have s2 : setS d 1 (d.1 1) = d := ST_ext (fun j => by simp only [setS_1]; split <;> simp_all) (fun _ => rfl)
  have s3 : setS d 2 (d.1 2) = d := ST_ext (fun j => by simp only [setS_1]; split <;> simp_all) (fun _ => rfl)
  have w0 : w32 (103 * 2) = ((206 : Nat) : Int) := by decide
  have e0 : setS (setS g 5 ((206 : Nat) : Int)) 4 1 = gG g (g.2 5) 1 206 := by
    unfold gG
    refine ST_ext (fun j => ?_) (fun j => ?_)
    · simp only [setS_1, setL_1]
      (repeat' split) <;> first | rfl | omega
    · simp only [setS_2, setL_2]
      split <;> simp_all
  simp only [eX5_passesAll_0, eX5_passesAll_1, eX5_passesAll_3, eX5_passesAll_4, eX5_passesAll_5, eX5_passesAll_8, eX5_passesAll_9, eX5_passesAll_10, eX5_passesAll_13, eX5_passesAll_14, eX5_passesAll_15, eX5_passesAll_18, eX5_passesAll_21, eX5_passesAll_22, eX5_passesAll_23, eX5_passesAll_26, eX5_passesAll_29, eX5_passesAll_30, eX5_passesAll_31, eX5_passesAll_34, eX5_passesAll_37, eX5_passesAll_38, eX5_passesAll_39, eX5_passesAll_42, eX5_passesAll_45, eX5_passesAll_46, eX5_passesAll_47, eX5_passesAll_50, eX5_passesAll_53, eX5_passesAll_54, eX5_passesAll_55, eX5_passesAll_58, eX5_passesAll_61, eX5_passesAll_62, eX5_passesAll_63, eX5_passesAll_66, eX5_passesAll_69, eX5_passesAll_70, eX5_passesAll_71, eX5_passesAll_74, eX5_passesAll_77, eX5_passesAll_78, eX5_passesAll_79, eX5_passesAll_82, eX5_passesAll_85, eX5_passesAll_86, eX5_passesAll_87, eX5_passesAll_90, eX5_passesAll_93, eX5_passesAll_94, eX5_passesAll_95, eX5_passesAll_96, eX5_passesAll_99, eX5_passesAll_102, eX5_passesAll_105, eX5_passesAll_106, eX5_passesAll_107, eX5_passesAll_108, eX5_passesAll_111, eX5_passesAll_114, eX5_passesAll_117, eX5_passesAll_118, eX5_passesAll_119, eX5_passesAll_120, eX5_passesAll_123, eX5_passesAll_126, eX5_passesAll_129, evb_some, evm_some, evc_some, evc_none, gd, if_true, if_false, eq_self, and_self, and_true, true_and, ne_eq, not_false_eq_true, or_true, true_or, mg, mf0, mf1, mf2, mf3, mf4, mf5, mf6, mf7, mf8, mf9, mf10, mf11, mf12, mf13, mf14, mf15, mf16, mf17, mf18, mf19, mf20, mf21, mf22, mf23, mf24, mf25, mf26, mf27, mw11, mw12, mw13, mw18, mw19, mw20, mw22, mw23, mw24, mw27, mx54, mx55, mx56, mx57, mx58, mx59, mx60, mx61, mx62, mx63, mx64, mx65, mx66, mx67, mx68, mx69, mx70, mx71, w0, e0, p55, p56, p57, p58, p59, p60, p61, p62, p63, p64, o0, o1, o2, kF_len, List.length_set, hl, Nat.reduceAdd, s1, s2, s3]
  rfl
theorem T5_back2 {d0 : ST} (hL : DL d) (hL0 : DL d0) (hl : (g.2 5).length = 309) (hK : KB (g.2 5) 206 d0) : ev X m_X5_passesAll 0 [vR 53, vI 2, vI 0] [] (mpt mem g d) = some (none, mpt mem (gG g (g.2 5) 0 309) d0) := by
  obtain ⟨l1, l2, l3, l4, l5, l6, l7, l8, l9, l10⟩ := hL
  obtain ⟨m1, m2, m3, m4, m5, m6, m7, m8, m9, m10⟩ := hL0
  obtain ⟨k1, k2, k3, k4, k5, k6, k7, k8, k9, k10, k11, k12, k13⟩ := hK
  have p55 := fun (e : ST) (he : (e.2 1).length = 6) => T5_passesB (X := X) (mem := mem) (g := g) (d := e) (a := 55) (i := 1) (N := 6) (l := g.2 5) (off := 206) (z := vS) (fun _ _ => rfl) ms55 he (by decide) hl (by decide)
  have r55 : ∀ e : ST, (e.2 1).length = 6 → itr (rF (g.2 5) 206) 6 0 (e.2 1) = d0.2 1 := fun e he => by
    have h := rF_eq (g.2 5) 206 (e.2 1) (d0.2 1) (by omega) (fun j hj => k1 j (by omega))
    rw [m1] at h
    exact h
  have p56 := fun (e : ST) (he : (e.2 2).length = 6) => T5_passesB (X := X) (mem := mem) (g := g) (d := e) (a := 56) (i := 2) (N := 6) (l := g.2 5) (off := 212) (z := vS) (fun _ _ => rfl) ms56 he (by decide) hl (by decide)
  have r56 : ∀ e : ST, (e.2 2).length = 6 → itr (rF (g.2 5) 212) 6 0 (e.2 2) = d0.2 2 := fun e he => by
    have h := rF_eq (g.2 5) 212 (e.2 2) (d0.2 2) (by omega) (fun j hj => k2 j (by omega))
    rw [m2] at h
    exact h
  have p57 := fun (e : ST) (he : (e.2 3).length = 6) => T5_passesB (X := X) (mem := mem) (g := g) (d := e) (a := 57) (i := 3) (N := 6) (l := g.2 5) (off := 218) (z := vS) (fun _ _ => rfl) ms57 he (by decide) hl (by decide)
  have r57 : ∀ e : ST, (e.2 3).length = 6 → itr (rF (g.2 5) 218) 6 0 (e.2 3) = d0.2 3 := fun e he => by
    have h := rF_eq (g.2 5) 218 (e.2 3) (d0.2 3) (by omega) (fun j hj => k3 j (by omega))
    rw [m3] at h
    exact h
  have p58 := fun (e : ST) (he : (e.2 4).length = 6) => T5_passesB (X := X) (mem := mem) (g := g) (d := e) (a := 58) (i := 4) (N := 6) (l := g.2 5) (off := 224) (z := vS) (fun _ _ => rfl) ms58 he (by decide) hl (by decide)
  have r58 : ∀ e : ST, (e.2 4).length = 6 → itr (rF (g.2 5) 224) 6 0 (e.2 4) = d0.2 4 := fun e he => by
    have h := rF_eq (g.2 5) 224 (e.2 4) (d0.2 4) (by omega) (fun j hj => k4 j (by omega))
    rw [m4] at h
    exact h
  have p59 := fun (e : ST) (he : (e.2 5).length = 36) => T5_passesB (X := X) (mem := mem) (g := g) (d := e) (a := 59) (i := 5) (N := 36) (l := g.2 5) (off := 230) (z := vS) (fun _ _ => rfl) ms59 he (by decide) hl (by decide)
  have r59 : ∀ e : ST, (e.2 5).length = 36 → itr (rF (g.2 5) 230) 36 0 (e.2 5) = d0.2 5 := fun e he => by
    have h := rF_eq (g.2 5) 230 (e.2 5) (d0.2 5) (by omega) (fun j hj => k5 j (by omega))
    rw [m5] at h
    exact h
  have p60 := fun (e : ST) (he : (e.2 6).length = 8) => T5_passesB (X := X) (mem := mem) (g := g) (d := e) (a := 60) (i := 6) (N := 8) (l := g.2 5) (off := 266) (z := vS) (fun _ _ => rfl) ms60 he (by decide) hl (by decide)
  have r60 : ∀ e : ST, (e.2 6).length = 8 → itr (rF (g.2 5) 266) 8 0 (e.2 6) = d0.2 6 := fun e he => by
    have h := rF_eq (g.2 5) 266 (e.2 6) (d0.2 6) (by omega) (fun j hj => k6 j (by omega))
    rw [m6] at h
    exact h
  have p61 := fun (e : ST) (he : (e.2 7).length = 8) => T5_passesB (X := X) (mem := mem) (g := g) (d := e) (a := 61) (i := 7) (N := 8) (l := g.2 5) (off := 274) (z := vS) (fun _ _ => rfl) ms61 he (by decide) hl (by decide)
  have r61 : ∀ e : ST, (e.2 7).length = 8 → itr (rF (g.2 5) 274) 8 0 (e.2 7) = d0.2 7 := fun e he => by
    have h := rF_eq (g.2 5) 274 (e.2 7) (d0.2 7) (by omega) (fun j hj => k7 j (by omega))
    rw [m7] at h
    exact h
  have p62 := fun (e : ST) (he : (e.2 8).length = 8) => T5_passesB (X := X) (mem := mem) (g := g) (d := e) (a := 62) (i := 8) (N := 8) (l := g.2 5) (off := 282) (z := vS) (fun _ _ => rfl) ms62 he (by decide) hl (by decide)
  have r62 : ∀ e : ST, (e.2 8).length = 8 → itr (rF (g.2 5) 282) 8 0 (e.2 8) = d0.2 8 := fun e he => by
    have h := rF_eq (g.2 5) 282 (e.2 8) (d0.2 8) (by omega) (fun j hj => k8 j (by omega))
    rw [m8] at h
    exact h
  have p63 := fun (e : ST) (he : (e.2 10).length = 8) => T5_passesB (X := X) (mem := mem) (g := g) (d := e) (a := 63) (i := 10) (N := 8) (l := g.2 5) (off := 290) (z := vS) (fun _ _ => rfl) ms63 he (by decide) hl (by decide)
  have r63 : ∀ e : ST, (e.2 10).length = 8 → itr (rF (g.2 5) 290) 8 0 (e.2 10) = d0.2 10 := fun e he => by
    have h := rF_eq (g.2 5) 290 (e.2 10) (d0.2 10) (by omega) (fun j hj => k9 j (by omega))
    rw [m10] at h
    exact h
  have p64 := fun (e : ST) (he : (e.2 9).length = 8) => T5_passesB (X := X) (mem := mem) (g := g) (d := e) (a := 64) (i := 9) (N := 8) (l := g.2 5) (off := 298) (z := vS) (fun _ _ => rfl) ms64 he (by decide) hl (by decide)
  have r64 : ∀ e : ST, (e.2 9).length = 8 → itr (rF (g.2 5) 298) 8 0 (e.2 9) = d0.2 9 := fun e he => by
    have h := rF_eq (g.2 5) 298 (e.2 9) (d0.2 9) (by omega) (fun j hj => k10 j (by omega))
    rw [m9] at h
    exact h
  have o0 := fun (e : ST) v => T5_passOneB (X := X) (mem := mem) (g := g) (d := e) (l := g.2 5) (c := 306) (v := v) (z := vS) hl (by decide)
  have o1 := fun (e : ST) v => T5_passOneB (X := X) (mem := mem) (g := g) (d := e) (l := g.2 5) (c := 307) (v := v) (z := vS) hl (by decide)
  have o2 := fun (e : ST) v => T5_passOneB (X := X) (mem := mem) (g := g) (d := e) (l := g.2 5) (c := 308) (v := v) (z := vS) hl (by decide)
  have w0 : w32 (103 * 2) = ((206 : Nat) : Int) := by decide
  have e0 : setS (setS g 5 ((206 : Nat) : Int)) 4 0 = gG g (g.2 5) 0 206 := by
    unfold gG
    refine ST_ext (fun j => ?_) (fun j => ?_)
    · simp only [setS_1, setL_1]
      (repeat' split) <;> first | rfl | omega
    · simp only [setS_2, setL_2]
      split <;> simp_all
  simp only [eX5_passesAll_0, eX5_passesAll_1, eX5_passesAll_3, eX5_passesAll_4, eX5_passesAll_5, eX5_passesAll_8, eX5_passesAll_9, eX5_passesAll_10, eX5_passesAll_13, eX5_passesAll_14, eX5_passesAll_15, eX5_passesAll_18, eX5_passesAll_21, eX5_passesAll_22, eX5_passesAll_23, eX5_passesAll_26, eX5_passesAll_29, eX5_passesAll_30, eX5_passesAll_31, eX5_passesAll_34, eX5_passesAll_37, eX5_passesAll_38, eX5_passesAll_39, eX5_passesAll_42, eX5_passesAll_45, eX5_passesAll_46, eX5_passesAll_47, eX5_passesAll_50, eX5_passesAll_53, eX5_passesAll_54, eX5_passesAll_55, eX5_passesAll_58, eX5_passesAll_61, eX5_passesAll_62, eX5_passesAll_63, eX5_passesAll_66, eX5_passesAll_69, eX5_passesAll_70, eX5_passesAll_71, eX5_passesAll_74, eX5_passesAll_77, eX5_passesAll_78, eX5_passesAll_79, eX5_passesAll_82, eX5_passesAll_85, eX5_passesAll_86, eX5_passesAll_87, eX5_passesAll_90, eX5_passesAll_93, eX5_passesAll_94, eX5_passesAll_95, eX5_passesAll_96, eX5_passesAll_99, eX5_passesAll_102, eX5_passesAll_105, eX5_passesAll_106, eX5_passesAll_107, eX5_passesAll_108, eX5_passesAll_111, eX5_passesAll_114, eX5_passesAll_117, eX5_passesAll_118, eX5_passesAll_119, eX5_passesAll_120, eX5_passesAll_123, eX5_passesAll_126, eX5_passesAll_129, evb_some, evm_some, evc_some, evc_none, gd, if_true, if_false, eq_self, and_self, and_true, true_and, ne_eq, not_false_eq_true, or_true, true_or, mg, mf0, mf1, mf2, mf3, mf4, mf5, mf6, mf7, mf8, mf9, mf10, mf11, mf12, mf13, mf14, mf15, mf16, mf17, mf18, mf19, mf20, mf21, mf22, mf23, mf24, mf25, mf26, mf27, mw11, mw12, mw13, mw18, mw19, mw20, mw22, mw23, mw24, mw27, mx54, mx55, mx56, mx57, mx58, mx59, mx60, mx61, mx62, mx63, mx64, mx65, mx66, mx67, mx68, mx69, mx70, mx71, setS_1, setS_2, setL_1, setL_2, Nat.reduceEqDiff, ↓reduceIte, List.length_set, w0, e0, p55, r55, p56, r56, p57, r57, p58, r58, p59, r59, p60, r60, p61, r61, p62, r62, p63, r63, p64, r64, o0, o1, o2, l1, l2, l3, l4, l5, l6, l7, l8, l9, l10, Nat.reduceAdd]
  refine congrArg some (Prod.ext rfl (mpt_congr ?_ ?_ ?_ fun k h1 h2 => ?_))
  · exact k11
  · exact k12
  · exact k13
  · rcases (show k = 1 ∨ k = 2 ∨ k = 3 ∨ k = 4 ∨ k = 5 ∨ k = 6 ∨ k = 7 ∨ k = 8 ∨ k = 9 ∨ k = 10 by omega) with rfl | rfl | rfl | rfl | rfl | rfl | rfl | rfl | rfl | rfl <;> rfl
end KE
