/-! BITS -/
section BI
variable {X : List Int} {mem : AM} {n t mi la g gm d : ST}
/-- how many bits are set -/
def bitv (v : Int) : Int := itr (fun k s => w32 (s + and32 (shr32 v (k : Int)) 1)) 31 0 0
theorem T5_bits {v : Int} {M : AM} {y1 y2 : AV} : ev X m_X5_bits 0 [vI v, y1, y2] [] M = some (some (vI (bitv v)), M) := by
  have key : ∀ (n k : Nat) (s : Int), k + n = 31 → ev X m_X5_bits 4 [vI v, vI s, vI (k : Int)] [] M = some (some (vI (itr (fun k s => w32 (s + and32 (shr32 v (k : Int)) 1)) n k s)), M) := by
    intro n
    induction n with
    | zero =>
      intro k s hk
      have c1 : ¬ (k : Int) < 31 := by omega
      rw [eX5_bits_4]
      simp only [eX5_bits_0, eX5_bits_1, eX5_bits_2, eX5_bits_3, eX5_bits_5, eX5_bits_7, eX5_bits_10, eX5_bits_11, eX5_bits_12, eX5_bits_13, eX5_bits_14, eX5_bits_15, eX5_bits_16, eX5_bits_17, eX5_bits_18, eX5_bits_21, eX5_bits_24, eX5_bits_25, evb_some, evm_some, evc_some, evc_none, gd, if_true, if_false, eq_self, and_self, and_true, true_and, ne_eq, not_false_eq_true, or_true, true_or, if_neg c1, itr]
    | succ n ih =>
      intro k s hk
      have c1 : (k : Int) < 31 := by omega
      rw [eX5_bits_4]
      simp only [eX5_bits_0, eX5_bits_1, eX5_bits_2, eX5_bits_3, eX5_bits_5, eX5_bits_7, eX5_bits_10, eX5_bits_11, eX5_bits_12, eX5_bits_13, eX5_bits_14, eX5_bits_15, eX5_bits_16, eX5_bits_17, eX5_bits_18, eX5_bits_21, eX5_bits_24, eX5_bits_25, evb_some, evm_some, evc_some, evc_none, gd, if_true, if_false, eq_self, and_self, and_true, true_and, ne_eq, not_false_eq_true, or_true, true_or, if_pos c1, w32_k1 (show k < 2147483647 by omega), itr]
      exact ih _ _ (by omega)
  exact Eq.trans (by simp only [eX5_bits_0, eX5_bits_1, eX5_bits_2, eX5_bits_3]; rfl) (key 31 0 0 (by omega))
theorem bit_tab : ∀ k : Fin 8, ∀ s : Fin 128, s.val < 2 ^ k.val → or32 (s.val : Int) (shl32 1 (k.val : Int)) = ((s.val + 2 ^ k.val : Nat) : Int) ∧ bitv ((s.val + 2 ^ k.val : Nat) : Int) = bitv (s.val : Int) + 1 := by decide +kernel
theorem has_tab : ∀ s : Fin 128, ∀ k : Fin 7, and32 (shr32 (s.val : Int) (k.val : Int)) 1 = ((s.val / 2 ^ k.val % 2 : Nat) : Int) := by decide +kernel
theorem bitv_up (d : ST) (n : Nat) : ∀ (k s : Nat) (s' : Nat), k + n ≤ 8 → s < 2 ^ k → bitv (s : Int) = (s' : Int) → bitv (itr (bitF d 2) n k (s : Int)) = ((itr (brF d) n k s' : Nat) : Int) := by
  generalize hb : bitv = bv
  have ht : ∀ k s : Nat, k < 8 → s < 2 ^ k → or32 (s : Int) (shl32 1 (k : Int)) = ((s + 2 ^ k : Nat) : Int) ∧ bv ((s + 2 ^ k : Nat) : Int) = bv (s : Int) + 1 := by
    intro k s hk hs
    have hp7 : 2 ^ k ≤ 2 ^ 7 := Nat.pow_le_pow_right (by decide) (by omega)
    rw [← hb]
    exact bit_tab ⟨k, hk⟩ ⟨s, by omega⟩ hs
  clear hb
  induction n with
  | zero => intro k s s' _ _ h; exact h
  | succ n ih =>
    intro k s s' hk hs h
    show bv (itr (bitF d 2) n (k + 1) (bitF d 2 k (s : Int))) = ((itr (brF d) n (k + 1) (brF d k s') : Nat) : Int)
    unfold bitF brF
    have hp : 2 ^ (k + 1) = 2 * 2 ^ k := by rw [Nat.pow_succ, Nat.mul_comm]
    by_cases q : (d.2 8).getD k 0 = 2
    · have h2 := ht k s (by omega) hs
      rw [if_pos q, if_pos q, h2.1]
      exact ih (k + 1) _ (s' + 1) (by omega) (by omega) (by rw [h2.2, h]; rfl)
    · rw [if_neg q, if_neg q]
      exact ih (k + 1) s s' (by omega) (by omega) h
theorem bitv_0 : bitv 0 = 0 := by decide +kernel
theorem bitv_thS (h : DW d) : bitv (thS d 2) = ((bro d : Nat) : Int) := bitv_up d _ 0 0 0 (by have := h.2.2.1; omega) (by decide) bitv_0
end BI
