/-! THE WHOLE RUN -/
section SND
variable {p : Program} {l : Launch} {e : Env} {R : Room} {s : State} {m : MethodId} {args : Array Value} {below : List Frame} {meth : Method} {c : Code} {cells slots : Nat} {Q : State → Prop} {mi m' : MI} {X : List Int} {ad xa : Nat → Nat} {uv : Value} {cA : ClassId} {dC : Nat → ClassId} {dI : Nat → Nat → Nat} {A : Nat → Prop} {pc : Nat} {al st as rest : List AV} {mem mem' : AM} {len : Nat} {i : Instr}
theorem callVA_inv {q : SR} (h : callVA mi m' st mem = some q) : rmk mi m' = true ∧ (st.take (mP m')).length = mP m' ∧ ((st.take (mP m')).reverse.flatMap fl1).length + 1 ≤ mN m' ∧ ∃ v rest, st.drop (mP m') = v :: rest ∧ rest.length ≤ 4 ∧ q = .inr (.inl (m', v :: (st.take (mP m')).reverse, rest)) ∧ ((∃ a, v = vR a ∧ isO mem a (mK m') = true ∧ mK m' < 6) ∨ ∃ j, v = vX j ∧ (1 ≤ j ∧ j ≤ 8) ∧ mK m' = 7) := by
  obtain ⟨h1, h2⟩ := gI_inv h
  simp only [Bool.and_eq_true, decide_eq_true_eq] at h1
  obtain ⟨⟨h1, h3⟩, h4⟩ := h1
  refine ⟨h1, h3, h4, ?_⟩
  rcases pR_inv h2 with ⟨a, r, h5, h6⟩ | ⟨a, r, h5, h6⟩
  · obtain ⟨h7, h8⟩ := gI_inv h6
    simp only [Bool.and_eq_true, decide_eq_true_eq] at h7
    exact ⟨vR a, r, h5, h7.1.1, (Option.some.inj h8).symm, Or.inl ⟨a, rfl, h7.1.2, h7.2⟩⟩
  · obtain ⟨h7, h8⟩ := gI_inv h6
    simp only [Bool.and_eq_true, decide_eq_true_eq] at h7
    exact ⟨vX a, r, h5, h7.1.1, (Option.some.inj h8).symm, Or.inr ⟨a, rfl, h7.1.2, h7.2⟩⟩
theorem callSA_inv {q : SR} (h : callSA mi m' st = some q) : rmk mi m' = true ∧ (st.take (mP m')).length = mP m' ∧ ((st.take (mP m')).reverse.flatMap fl1).length ≤ mN m' ∧ (st.drop (mP m')).length ≤ 4 ∧ q = .inr (.inl (m', (st.take (mP m')).reverse, st.drop (mP m'))) := by
  obtain ⟨h1, h2⟩ := gI_inv h
  simp only [Bool.and_eq_true, decide_eq_true_eq] at h1
  exact ⟨h1.1.1.1, h1.1.1.2, h1.1.2, h1.2, (Option.some.inj h2).symm⟩
def isCtl (i : Instr) : Bool := match i with
  | .invokevirtual _ => true
  | .invokestatic _ => true
  | .ireturn => true
  | .lreturn => true
  | .areturn => true
  | .return_ => true
  | _ => false
theorem nc_iconst {a0 : Int} {q : SR} (h : stepJ X mi pc al st mem (.iconst a0) len = some q) : ∃ r, q = .inl r := by
  obtain ⟨-, h⟩ := ck_inv h
  exact ⟨_, go_inv h⟩
theorem nc_bipush {a0 : Int} {q : SR} (h : stepJ X mi pc al st mem (.bipush a0) len = some q) : ∃ r, q = .inl r := by
  obtain ⟨-, h⟩ := ck_inv h
  exact ⟨_, go_inv h⟩
theorem nc_sipush {a0 : Int} {q : SR} (h : stepJ X mi pc al st mem (.sipush a0) len = some q) : ∃ r, q = .inl r := by
  obtain ⟨-, h⟩ := ck_inv h
  exact ⟨_, go_inv h⟩
theorem nc_lconst {a0 : Fin 2} {q : SR} (h : stepJ X mi pc al st mem (.lconst a0) len = some q) : ∃ r, q = .inl r := by
  obtain ⟨-, h⟩ := ck_inv h
  exact ⟨_, go_inv h⟩
theorem nc_ldc_w {a0 : Nat} {q : SR} (h : stepJ X mi pc al st mem (.ldc_w a0) len = some q) : ∃ r, q = .inl r := by
  obtain ⟨-, h⟩ := ck_inv h
  obtain ⟨_, -, h⟩ := bind_inv h
  exact ⟨_, go_inv h⟩
theorem nc_ldc2_w {a0 : Nat} {q : SR} (h : stepJ X mi pc al st mem (.ldc2_w a0) len = some q) : ∃ r, q = .inl r := by
  obtain ⟨-, h⟩ := ck_inv h
  obtain ⟨_, -, h⟩ := bind_inv h
  exact ⟨_, go_inv h⟩
theorem nc_getstatic {a0 : Nat} {q : SR} (h : stepJ X mi pc al st mem (.getstatic a0) len = some q) : ∃ r, q = .inl r := by
  obtain ⟨-, h⟩ := ck_inv h
  obtain ⟨_, -, h⟩ := bind_inv h
  exact ⟨_, go_inv h⟩
theorem nc_iload_n {a0 : Fin 4} {q : SR} (h : stepJ X mi pc al st mem (.iload_n a0) len = some q) : ∃ r, q = .inl r := by
  obtain ⟨-, h⟩ := ck_inv h
  obtain ⟨_, -, h⟩ := lI_inv h
  exact ⟨_, go_inv h⟩
theorem nc_iload {a0 : Nat} {q : SR} (h : stepJ X mi pc al st mem (.iload a0) len = some q) : ∃ r, q = .inl r := by
  obtain ⟨-, h⟩ := ck_inv h
  obtain ⟨_, -, h⟩ := lI_inv h
  exact ⟨_, go_inv h⟩
theorem nc_iinc {a0 : Nat} {a1 : Int} {q : SR} (h : stepJ X mi pc al st mem (.iinc a0 a1) len = some q) : ∃ r, q = .inl r := by
  obtain ⟨-, h⟩ := ck_inv h
  obtain ⟨_, -, h⟩ := lI_inv h
  obtain ⟨-, h⟩ := sT_inv h
  exact ⟨_, go_inv h⟩
theorem nc_lload_n {a0 : Fin 4} {q : SR} (h : stepJ X mi pc al st mem (.lload_n a0) len = some q) : ∃ r, q = .inl r := by
  obtain ⟨-, h⟩ := ck_inv h
  obtain ⟨_, -, -, h⟩ := lL_inv h
  exact ⟨_, go_inv h⟩
theorem nc_lload {a0 : Nat} {q : SR} (h : stepJ X mi pc al st mem (.lload a0) len = some q) : ∃ r, q = .inl r := by
  obtain ⟨-, h⟩ := ck_inv h
  obtain ⟨_, -, -, h⟩ := lL_inv h
  exact ⟨_, go_inv h⟩
theorem nc_aload_n {a0 : Fin 4} {q : SR} (h : stepJ X mi pc al st mem (.aload_n a0) len = some q) : ∃ r, q = .inl r := by
  obtain ⟨-, h⟩ := ck_inv h
  rcases lA_inv h with ⟨_, -, h⟩ | ⟨_, -, h⟩
  · exact ⟨_, go_inv h⟩
  · exact ⟨_, go_inv h⟩
theorem nc_aload {a0 : Nat} {q : SR} (h : stepJ X mi pc al st mem (.aload a0) len = some q) : ∃ r, q = .inl r := by
  obtain ⟨-, h⟩ := ck_inv h
  rcases lA_inv h with ⟨_, -, h⟩ | ⟨_, -, h⟩
  · exact ⟨_, go_inv h⟩
  · exact ⟨_, go_inv h⟩
theorem nc_istore_n {a0 : Fin 4} {q : SR} (h : stepJ X mi pc al st mem (.istore_n a0) len = some q) : ∃ r, q = .inl r := by
  obtain ⟨-, h⟩ := ck_inv h
  obtain ⟨_, _, -, h⟩ := p1_inv h
  obtain ⟨-, h⟩ := sT_inv h
  exact ⟨_, go_inv h⟩
theorem nc_istore {a0 : Nat} {q : SR} (h : stepJ X mi pc al st mem (.istore a0) len = some q) : ∃ r, q = .inl r := by
  obtain ⟨-, h⟩ := ck_inv h
  obtain ⟨_, _, -, h⟩ := p1_inv h
  obtain ⟨-, h⟩ := sT_inv h
  exact ⟨_, go_inv h⟩
theorem nc_astore_n {a0 : Fin 4} {q : SR} (h : stepJ X mi pc al st mem (.astore_n a0) len = some q) : ∃ r, q = .inl r := by
  obtain ⟨-, h⟩ := ck_inv h
  rcases pR_inv h with ⟨_, _, -, h⟩ | ⟨_, _, -, h⟩
  · obtain ⟨-, h⟩ := sT_inv h
    exact ⟨_, go_inv h⟩
  · obtain ⟨-, h⟩ := sT_inv h
    exact ⟨_, go_inv h⟩
theorem nc_astore {a0 : Nat} {q : SR} (h : stepJ X mi pc al st mem (.astore a0) len = some q) : ∃ r, q = .inl r := by
  obtain ⟨-, h⟩ := ck_inv h
  rcases pR_inv h with ⟨_, _, -, h⟩ | ⟨_, _, -, h⟩
  · obtain ⟨-, h⟩ := sT_inv h
    exact ⟨_, go_inv h⟩
  · obtain ⟨-, h⟩ := sT_inv h
    exact ⟨_, go_inv h⟩
theorem nc_lstore {a0 : Nat} {q : SR} (h : stepJ X mi pc al st mem (.lstore a0) len = some q) : ∃ r, q = .inl r := by
  obtain ⟨-, h⟩ := ck_inv h
  obtain ⟨_, _, -, h⟩ := pL_inv h
  obtain ⟨-, h⟩ := sL_inv h
  exact ⟨_, go_inv h⟩
theorem nc_iadd {q : SR} (h : stepJ X mi pc al st mem (.iadd) len = some q) : ∃ r, q = .inl r := by
  obtain ⟨-, h⟩ := ck_inv h
  obtain ⟨_, _, _, -, h⟩ := p2_inv h
  exact ⟨_, go_inv h⟩
theorem nc_isub {q : SR} (h : stepJ X mi pc al st mem (.isub) len = some q) : ∃ r, q = .inl r := by
  obtain ⟨-, h⟩ := ck_inv h
  obtain ⟨_, _, _, -, h⟩ := p2_inv h
  exact ⟨_, go_inv h⟩
theorem nc_imul {q : SR} (h : stepJ X mi pc al st mem (.imul) len = some q) : ∃ r, q = .inl r := by
  obtain ⟨-, h⟩ := ck_inv h
  obtain ⟨_, _, _, -, h⟩ := p2_inv h
  exact ⟨_, go_inv h⟩
theorem nc_iand {q : SR} (h : stepJ X mi pc al st mem (.iand) len = some q) : ∃ r, q = .inl r := by
  obtain ⟨-, h⟩ := ck_inv h
  obtain ⟨_, _, _, -, h⟩ := p2_inv h
  exact ⟨_, go_inv h⟩
theorem nc_ior {q : SR} (h : stepJ X mi pc al st mem (.ior) len = some q) : ∃ r, q = .inl r := by
  obtain ⟨-, h⟩ := ck_inv h
  obtain ⟨_, _, _, -, h⟩ := p2_inv h
  exact ⟨_, go_inv h⟩
theorem nc_ixor {q : SR} (h : stepJ X mi pc al st mem (.ixor) len = some q) : ∃ r, q = .inl r := by
  obtain ⟨-, h⟩ := ck_inv h
  obtain ⟨_, _, _, -, h⟩ := p2_inv h
  exact ⟨_, go_inv h⟩
theorem nc_ishl {q : SR} (h : stepJ X mi pc al st mem (.ishl) len = some q) : ∃ r, q = .inl r := by
  obtain ⟨-, h⟩ := ck_inv h
  obtain ⟨_, _, _, -, h⟩ := p2_inv h
  exact ⟨_, go_inv h⟩
theorem nc_ishr {q : SR} (h : stepJ X mi pc al st mem (.ishr) len = some q) : ∃ r, q = .inl r := by
  obtain ⟨-, h⟩ := ck_inv h
  obtain ⟨_, _, _, -, h⟩ := p2_inv h
  exact ⟨_, go_inv h⟩
theorem nc_iushr {q : SR} (h : stepJ X mi pc al st mem (.iushr) len = some q) : ∃ r, q = .inl r := by
  obtain ⟨-, h⟩ := ck_inv h
  obtain ⟨_, _, _, -, h⟩ := p2_inv h
  exact ⟨_, go_inv h⟩
theorem nc_idiv {q : SR} (h : stepJ X mi pc al st mem (.idiv) len = some q) : ∃ r, q = .inl r := by
  obtain ⟨-, h⟩ := ck_inv h
  obtain ⟨_, _, _, -, h⟩ := p2_inv h
  obtain ⟨-, h⟩ := gI_inv h
  exact ⟨_, go_inv h⟩
theorem nc_irem {q : SR} (h : stepJ X mi pc al st mem (.irem) len = some q) : ∃ r, q = .inl r := by
  obtain ⟨-, h⟩ := ck_inv h
  obtain ⟨_, _, _, -, h⟩ := p2_inv h
  obtain ⟨-, h⟩ := gI_inv h
  exact ⟨_, go_inv h⟩
theorem nc_ineg {q : SR} (h : stepJ X mi pc al st mem (.ineg) len = some q) : ∃ r, q = .inl r := by
  obtain ⟨-, h⟩ := ck_inv h
  obtain ⟨_, _, -, h⟩ := p1_inv h
  exact ⟨_, go_inv h⟩
theorem nc_i2c {q : SR} (h : stepJ X mi pc al st mem (.i2c) len = some q) : ∃ r, q = .inl r := by
  obtain ⟨-, h⟩ := ck_inv h
  obtain ⟨_, _, -, h⟩ := p1_inv h
  exact ⟨_, go_inv h⟩
theorem nc_i2b {q : SR} (h : stepJ X mi pc al st mem (.i2b) len = some q) : ∃ r, q = .inl r := by
  obtain ⟨-, h⟩ := ck_inv h
  obtain ⟨_, _, -, h⟩ := p1_inv h
  exact ⟨_, go_inv h⟩
theorem nc_i2l {q : SR} (h : stepJ X mi pc al st mem (.i2l) len = some q) : ∃ r, q = .inl r := by
  obtain ⟨-, h⟩ := ck_inv h
  obtain ⟨_, _, -, h⟩ := p1_inv h
  exact ⟨_, go_inv h⟩
theorem nc_ladd {q : SR} (h : stepJ X mi pc al st mem (.ladd) len = some q) : ∃ r, q = .inl r := by
  obtain ⟨-, h⟩ := ck_inv h
  obtain ⟨_, _, _, -, h⟩ := pL2_inv h
  exact ⟨_, go_inv h⟩
theorem nc_lsub {q : SR} (h : stepJ X mi pc al st mem (.lsub) len = some q) : ∃ r, q = .inl r := by
  obtain ⟨-, h⟩ := ck_inv h
  obtain ⟨_, _, _, -, h⟩ := pL2_inv h
  exact ⟨_, go_inv h⟩
theorem nc_lmul {q : SR} (h : stepJ X mi pc al st mem (.lmul) len = some q) : ∃ r, q = .inl r := by
  obtain ⟨-, h⟩ := ck_inv h
  obtain ⟨_, _, _, -, h⟩ := pL2_inv h
  exact ⟨_, go_inv h⟩
theorem nc_lcmp {q : SR} (h : stepJ X mi pc al st mem (.lcmp) len = some q) : ∃ r, q = .inl r := by
  obtain ⟨-, h⟩ := ck_inv h
  obtain ⟨_, _, _, -, h⟩ := pL2_inv h
  exact ⟨_, go_inv h⟩
theorem nc_ldiv {q : SR} (h : stepJ X mi pc al st mem (.ldiv) len = some q) : ∃ r, q = .inl r := by
  obtain ⟨-, h⟩ := ck_inv h
  obtain ⟨_, _, _, -, h⟩ := pL2_inv h
  obtain ⟨-, h⟩ := gI_inv h
  exact ⟨_, go_inv h⟩
theorem nc_lrem {q : SR} (h : stepJ X mi pc al st mem (.lrem) len = some q) : ∃ r, q = .inl r := by
  obtain ⟨-, h⟩ := ck_inv h
  obtain ⟨_, _, _, -, h⟩ := pL2_inv h
  obtain ⟨-, h⟩ := gI_inv h
  exact ⟨_, go_inv h⟩
theorem nc_dup {q : SR} (h : stepJ X mi pc al st mem (.dup) len = some q) : ∃ r, q = .inl r := by
  obtain ⟨-, h⟩ := ck_inv h
  obtain ⟨_, _, -, -, h⟩ := c1_inv h
  exact ⟨_, go_inv h⟩
theorem nc_pop {q : SR} (h : stepJ X mi pc al st mem (.pop) len = some q) : ∃ r, q = .inl r := by
  obtain ⟨-, h⟩ := ck_inv h
  obtain ⟨_, _, -, -, h⟩ := c1_inv h
  exact ⟨_, go_inv h⟩
theorem nc_dup2 {q : SR} (h : stepJ X mi pc al st mem (.dup2) len = some q) : ∃ r, q = .inl r := by
  obtain ⟨-, h⟩ := ck_inv h
  obtain ⟨_, _, -, -, h⟩ := c1_inv h
  obtain ⟨_, _, -, -, h⟩ := c1_inv h
  exact ⟨_, go_inv h⟩
theorem nc_iaload {q : SR} (h : stepJ X mi pc al st mem (.iaload) len = some q) : ∃ r, q = .inl r := by
  obtain ⟨-, h⟩ := ck_inv h
  obtain ⟨_, _, -, h⟩ := p1_inv h
  rcases pR_inv h with ⟨_, _, -, h⟩ | ⟨_, _, -, h⟩
  · obtain ⟨_, -, h⟩ := bind_inv h
    exact ⟨_, go_inv h⟩
  · obtain ⟨-, h⟩ := gI_inv h
    obtain ⟨_, -, h⟩ := bind_inv h
    exact ⟨_, go_inv h⟩
theorem nc_baload {q : SR} (h : stepJ X mi pc al st mem (.baload) len = some q) : ∃ r, q = .inl r := by
  obtain ⟨-, h⟩ := ck_inv h
  obtain ⟨_, _, -, h⟩ := p1_inv h
  rcases pR_inv h with ⟨_, _, -, h⟩ | ⟨_, _, -, h⟩
  · exact nomatch h
  · obtain ⟨_, -, h⟩ := bind_inv h
    exact ⟨_, go_inv h⟩
theorem nc_arraylength {q : SR} (h : stepJ X mi pc al st mem (.arraylength) len = some q) : ∃ r, q = .inl r := by
  obtain ⟨-, h⟩ := ck_inv h
  rcases pR_inv h with ⟨_, _, -, h⟩ | ⟨_, _, -, h⟩
  · obtain ⟨_, -, h⟩ := bind_inv h
    exact ⟨_, go_inv h⟩
  · obtain ⟨_, -, h⟩ := bind_inv h
    exact ⟨_, go_inv h⟩
theorem nc_iastore {q : SR} (h : stepJ X mi pc al st mem (.iastore) len = some q) : ∃ r, q = .inl r := by
  obtain ⟨-, h⟩ := ck_inv h
  obtain ⟨_, _, _, -, h⟩ := p2_inv h
  rcases pR_inv h with ⟨_, _, -, h⟩ | ⟨_, _, -, h⟩
  · obtain ⟨_, -, h⟩ := bind_inv h
    exact ⟨_, go_inv h⟩
  · exact nomatch h
theorem nc_getfield {a0 : Nat} {q : SR} (h : stepJ X mi pc al st mem (.getfield a0) len = some q) : ∃ r, q = .inl r := by
  obtain ⟨-, h⟩ := ck_inv h
  rcases pR_inv h with ⟨_, _, -, h⟩ | ⟨_, _, -, h⟩
  · obtain ⟨_, -, h⟩ := bind_inv h
    obtain ⟨_, -, h⟩ := bind_inv h
    exact ⟨_, go_inv h⟩
  · obtain ⟨_, -, h⟩ := bind_inv h
    exact ⟨_, go_inv h⟩
theorem nc_putfield {a0 : Nat} {q : SR} (h : stepJ X mi pc al st mem (.putfield a0) len = some q) : ∃ r, q = .inl r := by
  obtain ⟨-, h⟩ := ck_inv h
  obtain ⟨_, _, -, h⟩ := p1_inv h
  rcases pR_inv h with ⟨_, _, -, h⟩ | ⟨_, _, -, h⟩
  · obtain ⟨_, -, h⟩ := bind_inv h
    obtain ⟨-, h⟩ := gI_inv h
    obtain ⟨_, -, h⟩ := bind_inv h
    exact ⟨_, go_inv h⟩
  · exact nomatch h
theorem nc_goto {a0 : Int} {q : SR} (h : stepJ X mi pc al st mem (.goto a0) len = some q) : ∃ r, q = .inl r := by
  obtain ⟨-, h⟩ := ck_inv h
  obtain ⟨_, -, h⟩ := jm_inv h
  exact ⟨_, h⟩
theorem nc_ifnonnull {a0 : Int} {q : SR} (h : stepJ X mi pc al st mem (.ifnonnull a0) len = some q) : ∃ r, q = .inl r := by
  obtain ⟨-, h⟩ := ck_inv h
  rcases pR_inv h with ⟨_, _, -, h⟩ | ⟨_, _, -, h⟩
  · obtain ⟨_, -, h⟩ := jm_inv h
    exact ⟨_, h⟩
  · exact nomatch h
theorem nc_if_icmp {a0 : Jvm.ClassFile.Cond} {a1 : Int} {q : SR} (h : stepJ X mi pc al st mem (.if_icmp a0 a1) len = some q) : ∃ r, q = .inl r := by
  obtain ⟨-, h⟩ := ck_inv h
  obtain ⟨_, _, _, -, h⟩ := p2_inv h
  obtain ⟨_, -, h⟩ := br_inv h
  exact ⟨_, h⟩
theorem nc_ifCond {a0 : Jvm.ClassFile.Cond} {a1 : Int} {q : SR} (h : stepJ X mi pc al st mem (.ifCond a0 a1) len = some q) : ∃ r, q = .inl r := by
  obtain ⟨-, h⟩ := ck_inv h
  obtain ⟨_, _, -, h⟩ := p1_inv h
  obtain ⟨_, -, h⟩ := br_inv h
  exact ⟨_, h⟩
theorem nc_lookupswitch {a0 : Int} {a1 : Array (Int × Int)} {q : SR} (h : stepJ X mi pc al st mem (.lookupswitch a0 a1) len = some q) : ∃ r, q = .inl r := by
  obtain ⟨_, _, -, h⟩ := p1_inv h
  obtain ⟨-, h⟩ := gI_inv h
  obtain ⟨_, -, h⟩ := jm_inv h
  exact ⟨_, h⟩
theorem nc_ldc {a0 : Nat} {q : SR} (h : stepJ X mi pc al st mem (.ldc a0) len = some q) : ∃ r, q = .inl r := by
  replace h := (ck_inv h).2
  split at h
  · exact ⟨_, go_inv h⟩
  · obtain ⟨_, -, h⟩ := bind_inv h
    exact ⟨_, go_inv h⟩
theorem nc_tableswitch {a0 a1 a2 : Int} {a3 : Array Int} {q : SR} (h : stepJ X mi pc al st mem (.tableswitch a0 a1 a2 a3) len = some q) : ∃ r, q = .inl r := by
  obtain ⟨_, _, -, h⟩ := p1_inv h
  unfold swT at h
  split at h
  · obtain ⟨_, -, h⟩ := jm_inv h
    exact ⟨_, h⟩
  · obtain ⟨_, -, h⟩ := bind_inv h
    obtain ⟨_, -, h⟩ := jm_inv h
    exact ⟨_, h⟩
theorem st_noctl {q : SR} (hi : isCtl i = false) (h : stepJ X mi pc al st mem i len = some q) : ∃ r, q = .inl r := by
  cases i with
  | aload a0 => exact nc_aload h
  | aload_n a0 => exact nc_aload_n h
  | areturn  => cases hi
  | arraylength  => exact nc_arraylength h
  | astore a0 => exact nc_astore h
  | astore_n a0 => exact nc_astore_n h
  | baload  => exact nc_baload h
  | bipush a0 => exact nc_bipush h
  | dup  => exact nc_dup h
  | dup2  => exact nc_dup2 h
  | getfield a0 => exact nc_getfield h
  | getstatic a0 => exact nc_getstatic h
  | goto a0 => exact nc_goto h
  | i2b  => exact nc_i2b h
  | i2c  => exact nc_i2c h
  | i2l  => exact nc_i2l h
  | iadd  => exact nc_iadd h
  | iaload  => exact nc_iaload h
  | iand  => exact nc_iand h
  | iastore  => exact nc_iastore h
  | iconst a0 => exact nc_iconst h
  | idiv  => exact nc_idiv h
  | if_icmp a0 a1 => exact nc_if_icmp h
  | ifCond a0 a1 => exact nc_ifCond h
  | ifnonnull a0 => exact nc_ifnonnull h
  | iinc a0 a1 => exact nc_iinc h
  | iload a0 => exact nc_iload h
  | iload_n a0 => exact nc_iload_n h
  | imul  => exact nc_imul h
  | ineg  => exact nc_ineg h
  | invokestatic a0 => cases hi
  | invokevirtual a0 => cases hi
  | ior  => exact nc_ior h
  | irem  => exact nc_irem h
  | ireturn  => cases hi
  | ishl  => exact nc_ishl h
  | ishr  => exact nc_ishr h
  | istore a0 => exact nc_istore h
  | istore_n a0 => exact nc_istore_n h
  | isub  => exact nc_isub h
  | iushr  => exact nc_iushr h
  | ixor  => exact nc_ixor h
  | ladd  => exact nc_ladd h
  | lcmp  => exact nc_lcmp h
  | lconst a0 => exact nc_lconst h
  | ldc a0 => exact nc_ldc h
  | ldc_w a0 => exact nc_ldc_w h
  | ldc2_w a0 => exact nc_ldc2_w h
  | ldiv  => exact nc_ldiv h
  | lload a0 => exact nc_lload h
  | lload_n a0 => exact nc_lload_n h
  | lmul  => exact nc_lmul h
  | lookupswitch a0 a1 => exact nc_lookupswitch h
  | lrem  => exact nc_lrem h
  | lreturn  => cases hi
  | lstore a0 => exact nc_lstore h
  | lsub  => exact nc_lsub h
  | pop  => exact nc_pop h
  | putfield a0 => exact nc_putfield h
  | return_  => cases hi
  | sipush a0 => exact nc_sipush h
  | tableswitch a0 a1 a2 a3 => exact nc_tableswitch h
  | _ => exact nomatch (show (none : Option SR) = some _ from h)
theorem st_go {r : Nat × List AV × List AV × AM} (C : Cx p s m args c R mi X ad xa uv cA dC dI A cells slots) (hd : decode (mB mi) pc = .ok (i, len)) (h : stepJ X mi pc al st mem i len = some (.inl r)) (kk : Nx p l e R s m args below meth c cells slots Q mi ad xa uv cA dC dI A r) : Nx p l e R s m args below meth c cells slots Q mi ad xa uv cA dC dI A (pc, al, st, mem) := by
  cases i with
  | aload a0 => exact st_aload C hd h kk
  | aload_n a0 => exact st_aload_n C hd h kk
  | arraylength  => exact st_arraylength C hd h kk
  | astore a0 => exact st_astore C hd h kk
  | astore_n a0 => exact st_astore_n C hd h kk
  | baload  => exact st_baload C hd h kk
  | bipush a0 => exact st_bipush C hd h kk
  | dup  => exact st_dup C hd h kk
  | dup2  => exact st_dup2 C hd h kk
  | getfield a0 => exact st_getfield C hd h kk
  | getstatic a0 => exact st_getstatic C hd h kk
  | goto a0 => exact st_goto C hd h kk
  | i2b  => exact st_i2b C hd h kk
  | i2c  => exact st_i2c C hd h kk
  | i2l  => exact st_i2l C hd h kk
  | iadd  => exact st_iadd C hd h kk
  | iaload  => exact st_iaload C hd h kk
  | iand  => exact st_iand C hd h kk
  | iastore  => exact st_iastore C hd h kk
  | iconst a0 => exact st_iconst C hd h kk
  | idiv  => exact st_idiv C hd h kk
  | if_icmp a0 a1 => exact st_if_icmp C hd h kk
  | ifCond a0 a1 => exact st_ifCond C hd h kk
  | ifnonnull a0 => exact st_ifnonnull C hd h kk
  | iinc a0 a1 => exact st_iinc C hd h kk
  | iload a0 => exact st_iload C hd h kk
  | iload_n a0 => exact st_iload_n C hd h kk
  | imul  => exact st_imul C hd h kk
  | ineg  => exact st_ineg C hd h kk
  | invokestatic a0 => exact st_invokestatic C hd h kk
  | ior  => exact st_ior C hd h kk
  | irem  => exact st_irem C hd h kk
  | ishl  => exact st_ishl C hd h kk
  | ishr  => exact st_ishr C hd h kk
  | istore a0 => exact st_istore C hd h kk
  | istore_n a0 => exact st_istore_n C hd h kk
  | isub  => exact st_isub C hd h kk
  | iushr  => exact st_iushr C hd h kk
  | ixor  => exact st_ixor C hd h kk
  | ladd  => exact st_ladd C hd h kk
  | lcmp  => exact st_lcmp C hd h kk
  | lconst a0 => exact st_lconst C hd h kk
  | ldc a0 => exact st_ldc C hd h kk
  | ldc_w a0 => exact st_ldc_w C hd h kk
  | ldc2_w a0 => exact st_ldc2_w C hd h kk
  | ldiv  => exact st_ldiv C hd h kk
  | lload a0 => exact st_lload C hd h kk
  | lload_n a0 => exact st_lload_n C hd h kk
  | lmul  => exact st_lmul C hd h kk
  | lookupswitch a0 a1 => exact st_lookupswitch C hd h kk
  | lrem  => exact st_lrem C hd h kk
  | lstore a0 => exact st_lstore C hd h kk
  | lsub  => exact st_lsub C hd h kk
  | pop  => exact st_pop C hd h kk
  | putfield a0 => exact st_putfield C hd h kk
  | sipush a0 => exact st_sipush C hd h kk
  | tableswitch a0 a1 a2 a3 => exact st_tableswitch C hd h kk
  | invokevirtual k =>
    obtain ⟨-, h⟩ := ck_inv h
    obtain ⟨_, -, h⟩ := bind_inv h
    obtain ⟨-, h⟩ := gI_inv h
    obtain ⟨-, -, -, v, rest, -, -, hq, -⟩ := callVA_inv h
    cases hq
  | ireturn =>
    obtain ⟨-, h⟩ := ck_inv h
    obtain ⟨_, _, -, h⟩ := p1_inv h
    obtain ⟨-, h⟩ := gI_inv h
    cases h
  | lreturn =>
    obtain ⟨-, h⟩ := ck_inv h
    obtain ⟨_, _, -, h⟩ := pL_inv h
    obtain ⟨-, h⟩ := gI_inv h
    cases h
  | areturn =>
    obtain ⟨-, h⟩ := ck_inv h
    rcases pR_inv h with ⟨_, _, -, h⟩ | ⟨_, _, -, h⟩ <;> (obtain ⟨-, h⟩ := gI_inv h; cases h)
  | return_ =>
    obtain ⟨-, h⟩ := ck_inv h
    obtain ⟨-, h⟩ := gI_inv h
    cases h
  | _ => exact nomatch (show (none : Option SR) = some _ from h)
def wsM (m : MI) : List Cond := .code (mY m) (mB m) (mN m) (mRt m) :: wT
def rmM (m : MI) : Room := { frames := mF m, cells := 0, slots := 0, locals := mW m }
def aA (ad : Nat → Nat) : Nat → Prop := fun q => ∃ i : Nat, i < 72 ∧ q = ad i
def PcM (X : List Int) (ad xa : Nat → Nat) (uv : Value) (cA : ClassId) (dC : Nat → ClassId) (dI : Nat → Nat → Nat) (as : List AV) (mem : AM) : Array Value → State → Prop := va_Pc (as.map (cv ad xa uv)) (fun U => va_P (dC, dI) vwCl (cws ad xa uv cA mem) U.heap ∧ va_K (dC, dI) vwCl [(cA, .int)] U ∧ Ext xa uv X (aA ad) U U.heap)
def QcM (ad xa : Nat → Nat) (uv : Value) (cA : ClassId) (dC : Nat → ClassId) (dI : Nat → Nat → Nat) (r : Option AV) (mem : AM) : Array Value → State → Outcome → State → Prop := fun _ st oc t => (oc = .returned (r.map (cv ad xa uv)) ∧ va_P (dC, dI) vwCl (cws ad xa uv cA mem) t.heap ∧ va_F (aA ad) st t) ∧ (∀ v, r = some v → okV v) ∧ okM mem
theorem PcM_blind : FrameBlind (PcM X ad xa uv cA dC dI as mem) := fun a U g mk q => by
  obtain ⟨h1, h2, h3, h4⟩ := q
  exact ⟨h1, h2, va_K.moved (u := U) (U := U.calling g mk a) (Vm.Alike.refl U.vm) h3, (show Ext xa uv X (aA ad) (U.calling g mk a) U.heap from Ext.same (u := U) rfl h4)⟩
theorem gT {ws : List Cond} (h : ∀ w ∈ ws, w ∈ wT) : GoodIn wT ws := fun w hw => ⟨h w hw, wT_good (h w hw)⟩
theorem va_callG {H : Heap} {locs : List Loc} {ls : Array Slot} {st0 rest0 : List Value} {Qa : State → Outcome → State → Prop} {free : Addr → Prop} (hr : va_Run p l e R s m args below meth c H locs cells slots 0 0 (F0 m pc ls st0) rest0 Qa free) (hf : ∀ q, free q → A q) (hS : va_S A s.heap H locs)
    (kk : ∀ (v : Option Value) (st₀ t : State) (H1 : Heap) (locs1 : List Loc), st₀.heap = H → t.heap = H1 → Qa st₀ (.returned v) t → (∀ q ∈ locs1, A q.base) → W p l e R s m args below meth c H1 locs1 cells slots Q (F0 m (pc + 3) ls (v.toList ++ rest0))) : W p l e R s m args below meth c H locs cells slots Q (F0 m pc ls st0) := by
  intro T hT X
  obtain ⟨v, st₀, t, T', L, h0, X', hL, e1, e2, hq, st⟩ := hr T hT X
  obtain ⟨t2, a1, b1⟩ := kk v st₀ t T'.heap (locs ++ L) h0 e1.symm hq (fun q hq => by
    rcases List.mem_append.mp hq with z | z
    · exact hS.2.2 q z
    · exact hf _ (hL q z)) T' rfl X'
  exact ⟨t2, st t2 a1, b1⟩
theorem copyA_inl {q : SR} (h : copyA mi pc al st mem = some q) : ∃ r, q = .inl r := by
  obtain ⟨_, _, _, -, h⟩ := p2_inv h
  rcases pR_inv h with ⟨_, _, -, h⟩ | ⟨_, _, -, h⟩
  · obtain ⟨_, _, -, h⟩ := p1_inv h
    rcases pR_inv h with ⟨_, _, -, h⟩ | ⟨_, _, -, h⟩
    · obtain ⟨-, h⟩ := gI_inv h
      obtain ⟨_, -, h⟩ := bind_inv h
      exact ⟨_, go_inv h⟩
    · exact nomatch h
  · exact nomatch h
theorem mathA_inl {k : Nat} {q : SR} (h : mathA mi k pc al st mem = some q) : ∃ r, q = .inl r := by
  replace h := (gI_inv h).2
  split at h
  · obtain ⟨_, _, _, -, h⟩ := p2_inv h
    obtain ⟨-, h⟩ := gI_inv h
    exact ⟨_, go_inv h⟩
  · obtain ⟨_, _, _, -, h⟩ := p2_inv h
    obtain ⟨-, h⟩ := gI_inv h
    exact ⟨_, go_inv h⟩
  · obtain ⟨_, _, -, h⟩ := p1_inv h
    obtain ⟨-, h⟩ := gI_inv h
    exact ⟨_, go_inv h⟩
theorem clm_none {al : List AV} {j : Nat} (h : al[j]? = some vS ∨ al[j]? = none) : clm ad xa uv al j = [] := by
  unfold clm
  rcases h with h | h <;> rw [h]
theorem clm_ent (hu : uv.category = 1) (n : Nat) : ∀ (as pre : List AV) (j : Nat), pre.length ≤ j → ∀ q ∈ clm ad xa uv (pre ++ (as.flatMap fl1 ++ List.replicate n vS)) j, q ∈ lv_args pre.length (as.map (cv ad xa uv))
  | [], pre, j, hj, q, hq => by
    have h1 : (pre ++ (([] : List AV).flatMap fl1 ++ List.replicate n vS))[j]? = some vS ∨ (pre ++ (([] : List AV).flatMap fl1 ++ List.replicate n vS))[j]? = none := by
      rw [List.getElem?_append_right hj, List.flatMap_nil, List.nil_append]
      rcases Nat.lt_or_ge (j - pre.length) n with z | z
      · exact Or.inl (by rw [List.getElem?_replicate, if_pos z])
      · exact Or.inr (by rw [List.getElem?_replicate, if_neg (by omega)])
    rw [clm_none h1] at hq
    cases hq
  | .inr (.inl x) :: as, pre, j, hj, q, hq => by
    have e1 : pre ++ ((Sum.inr (Sum.inl x) :: as).flatMap fl1 ++ List.replicate n vS) = (pre ++ [vL x, vS]) ++ (as.flatMap fl1 ++ List.replicate n vS) := by simp [fl1]
    rw [e1] at hq
    rcases Nat.lt_or_ge j (pre ++ [vL x, vS]).length with z | z
    · have z2 : j < pre.length + 2 := by simpa using z
      rcases Nat.lt_or_ge pre.length j with y | y
      · have hj2 : j = pre.length + 1 := by omega
        subst hj2
        have h2 : ((pre ++ [vL x, vS]) ++ (as.flatMap fl1 ++ List.replicate n vS))[pre.length + 1]? = some vS := by
          rw [List.getElem?_append_left z, List.getElem?_append_right (by omega)]
          simp
        rw [clm_none (Or.inl h2)] at hq
        cases hq
      · have hj2 : j = pre.length := by omega
        subst hj2
        have h2 : ((pre ++ [vL x, vS]) ++ (as.flatMap fl1 ++ List.replicate n vS))[pre.length]? = some (vL x) := by
          rw [List.getElem?_append_left z, List.getElem?_append_right (by omega)]
          simp
        unfold clm at hq
        rw [h2] at hq
        dsimp only at hq
        split at hq
        · rw [List.mem_singleton] at hq
          rw [hq]
          exact List.mem_cons_self
        · cases hq
    · have h3 := clm_ent hu n as (pre ++ [vL x, vS]) j z q hq
      rw [show (pre ++ [vL x, vS]).length = pre.length + 2 by simp] at h3
      exact List.mem_cons_of_mem _ h3
  | .inl x :: as, pre, j, hj, q, hq => by
    have e1 : pre ++ ((Sum.inl x :: as).flatMap fl1 ++ List.replicate n vS) = (pre ++ [vI x]) ++ (as.flatMap fl1 ++ List.replicate n vS) := by simp [fl1]
    rw [e1] at hq
    rcases Nat.lt_or_ge j (pre ++ [vI x]).length with z | z
    · have hj2 : j = pre.length := by have z2 : j < pre.length + 1 := by simpa using z
                                      omega
      subst hj2
      have h2 : ((pre ++ [vI x]) ++ (as.flatMap fl1 ++ List.replicate n vS))[pre.length]? = some (vI x) := by
        rw [List.getElem?_append_left z, List.getElem?_append_right (by omega)]
        simp
      unfold clm at hq
      rw [h2] at hq
      dsimp only at hq
      rw [List.mem_singleton] at hq
      rw [hq]
      exact List.mem_cons_self
    · have h3 := clm_ent hu n as (pre ++ [vI x]) j z q hq
      rw [show (pre ++ [vI x]).length = pre.length + 1 by simp] at h3
      exact List.mem_cons_of_mem _ h3
  | .inr (.inr x) :: as, pre, j, hj, q, hq => by
    have hc : (cv ad xa uv (.inr (.inr x))).category = 1 := cv_cat hu (fun _ z => nomatch z)
    have e1 : pre ++ ((Sum.inr (Sum.inr x) :: as).flatMap fl1 ++ List.replicate n vS) = (pre ++ [Sum.inr (Sum.inr x)]) ++ (as.flatMap fl1 ++ List.replicate n vS) := by simp [fl1]
    rw [e1] at hq
    have e2 : lv_args pre.length ((Sum.inr (Sum.inr x) :: as : List AV).map (cv ad xa uv)) = (pre.length, cv ad xa uv (.inr (.inr x))) :: lv_args (pre.length + 1) (as.map (cv ad xa uv)) := by
      show (pre.length, cv ad xa uv (.inr (.inr x))) :: lv_args (if (cv ad xa uv (.inr (.inr x))).category = 2 then _ else _) _ = _
      rw [hc, if_neg (by decide)]
    rw [e2]
    rcases Nat.lt_or_ge j (pre ++ [Sum.inr (Sum.inr x)] : List AV).length with z | z
    · have hj2 : j = pre.length := by have z2 : j < pre.length + 1 := by simpa using z
                                      omega
      subst hj2
      have h2 : ((pre ++ [Sum.inr (Sum.inr x)] : List AV) ++ (as.flatMap fl1 ++ List.replicate n vS))[pre.length]? = some (Sum.inr (Sum.inr x)) := by
        rw [List.getElem?_append_left z, List.getElem?_append_right (by omega)]
        simp
      unfold clm at hq
      rw [h2] at hq
      refine List.mem_cons.mpr (Or.inl ?_)
      match x, hq with
      | .inl a, hq => exact List.mem_singleton.mp hq
      | .inr (.inl a), hq => exact List.mem_singleton.mp hq
      | .inr (.inr 0), hq => cases hq
      | .inr (.inr (k + 1)), hq => exact List.mem_singleton.mp hq
    · have h3 := clm_ent hu n as (pre ++ [Sum.inr (Sum.inr x)]) j z q hq
      rw [show (pre ++ [Sum.inr (Sum.inr x)] : List AV).length = pre.length + 1 by simp] at h3
      exact List.mem_cons_of_mem _ h3
theorem sl_len (hu : uv.category = 1) : ∀ as : List AV, (lg_sl (as.map (cv ad xa uv))).length = (as.flatMap fl1).length
  | [] => rfl
  | .inr (.inl x) :: as => by
    have h := sl_len hu as
    unfold lg_sl at h ⊢
    simp only [List.map_cons, List.flatMap_cons, List.length_append, h]
    rfl
  | .inl x :: as => by
    have h := sl_len hu as
    unfold lg_sl at h ⊢
    simp only [List.map_cons, List.flatMap_cons, List.length_append, h]
    rfl
  | .inr (.inr x) :: as => by
    have h := sl_len hu as
    have hc : (cv ad xa uv (.inr (.inr x))).category = 1 := cv_cat hu (fun _ z => nomatch z)
    unfold lg_sl at h ⊢
    simp only [List.map_cons, List.flatMap_cons, List.length_append, h, hc]
    rfl
theorem fits_of {ty : FieldType} {x : Int} (hx : w32 x = x) (h : rok (some ty) x = true) : fits ty (.int (Int32.ofInt x)) = true := by
  unfold rok at h
  split at h
  · rename_i he; cases he; rfl
  · rename_i he; cases he
    exact (nar_z (by simpa using h)).2
  · rename_i he; cases he
    simp only [decide_eq_true_eq] at h
    have e0 : (0 : Int32) = Int32.ofInt 0 := rfl
    have e1 : (65535 : Int32) = Int32.ofInt 65535 := rfl
    show (decide ((0 : Int32) ≤ Int32.ofInt x) && decide (Int32.ofInt x ≤ 65535)) = true
    rw [e0, e1, decide_eq_true ((c_le (by decide) hx).mpr (by omega)), decide_eq_true ((c_le hx (by decide)).mpr (by omega))]
    rfl
  · rename_i he; cases he
    simp only [decide_eq_true_eq] at h
    have e0 : (-128 : Int32) = Int32.ofInt (-128) := rfl
    have e1 : (127 : Int32) = Int32.ofInt 127 := rfl
    show (decide ((-128 : Int32) ≤ Int32.ofInt x) && decide (Int32.ofInt x ≤ 127)) = true
    rw [e0, e1, decide_eq_true ((c_le (by decide) hx).mpr (by omega)), decide_eq_true ((c_le hx (by decide)).mpr (by omega))]
    rfl
  · cases h
theorem st_ret {r : Option AV} (C : Cx p s m args c R mi X ad xa uv cA dC dI (aA ad) 0 0) (hr : meth.sig.returnType = mRt mi) (hlocks : meth.locks = false) (hd : decode (mB mi) pc = .ok (i, len)) (h : stepJ X mi pc al st mem i len = some (.inr (.inr r))) : Nx p l e R s m args below meth c 0 0 (MQ below (QcM ad xa uv cA dC dI r mem) args s 0 0 (aA ad)) mi ad xa uv cA dC dI (aA ad) (pc, al, st, mem) := by
  obtain ⟨hx, hb, -⟩ := C
  have hq : ∀ {H : Heap} {locs : List Loc} {r : Option AV}, va_P (dC, dI) vwCl (cws ad xa uv cA mem) H → va_S (aA ad) s.heap H locs → (∀ v, r = some v → okV v) → okM mem → ∀ t : State, t.heap = H → s.WarmedH t.vm → QcM ad xa uv cA dC dI r mem args s (.returned (r.map (cv ad xa uv))) t := by
    intro H locs r hP hS h1 h2 t ht _
    exact ⟨⟨rfl, by rw [ht]; exact hP, hS.F ht⟩, h1, h2⟩
  by_cases hi : isCtl i = false
  · obtain ⟨_, hz⟩ := st_noctl hi h
    cases hz
  · cases i with
    | invokevirtual k =>
      obtain ⟨-, h⟩ := ck_inv h
      obtain ⟨_, -, h⟩ := bind_inv h
      obtain ⟨-, h⟩ := gI_inv h
      obtain ⟨-, -, -, v, rest, -, -, hq, -⟩ := callVA_inv h
      cases hq
    | invokestatic k =>
      replace h := (ck_inv h).2
      split at h
      · obtain ⟨-, h⟩ := gI_inv h
        obtain ⟨-, -, -, -, hq⟩ := callSA_inv h
        cases hq
      · split at h
        · obtain ⟨_, hz⟩ := copyA_inl h
          cases hz
        · obtain ⟨_, -, h⟩ := bind_inv h
          obtain ⟨_, hz⟩ := mathA_inl h
          cases hz
    | ireturn =>
      obtain ⟨rfl, h1⟩ := ck_inv h
      obtain ⟨x, st', rfl, h2⟩ := p1_inv h1
      obtain ⟨h3, h4⟩ := gI_inv h2
      simp only [Bool.and_eq_true, decide_eq_true_eq] at h3
      obtain ⟨h5, h6⟩ := h3
      have h5 := List.length_eq_zero_iff.mp h5
      subst h5
      cases h4
      intro H locs ls hP hS hL hO
      have hx1 := ok_hd hO.2.1
      have hz : ∃ ty, mRt mi = some ty := by
        cases hm : mRt mi with
        | none => rw [hm] at h6; cases h6
        | some ty => exact ⟨ty, rfl⟩
      obtain ⟨ty, hty⟩ := hz
      rw [hty] at h6
      exact W.zret (v := Int32.ofInt x) hx hb (hr.trans hty) (narrow_of_fits (fits_of hx1 h6)) (fun t ht hW => hq hP hS (fun v hv => by cases hv; exact hx1) hO.2.2 t ht hW) hS.2.2 hd hlocks
    | lreturn =>
      obtain ⟨rfl, h1⟩ := ck_inv h
      obtain ⟨x, st', rfl, h2⟩ := pL_inv h1
      obtain ⟨h3, h4⟩ := gI_inv h2
      simp only [Bool.and_eq_true, decide_eq_true_eq] at h3
      obtain ⟨h5, h6⟩ := h3
      have h5 := List.length_eq_zero_iff.mp h5
      subst h5
      cases h4
      intro H locs ls hP hS hL hO
      have hx1 := ok_hd hO.2.1
      have hty : mRt mi = some .long := by
        unfold rokL at h6
        split at h6
        · assumption
        · cases h6
      exact W.lret (v := Int64.ofInt x) hx hb (hr.trans hty) (fun t ht hW => hq hP hS (fun v hv => by cases hv; exact hx1) hO.2.2 t ht hW) hS.2.2 hd hlocks
    | areturn =>
      obtain ⟨rfl, h1⟩ := ck_inv h
      have hrt : rokA (mRt mi) = true → ∃ rt, mRt mi = some rt ∧ ((∃ n, rt = .object n) ∨ ∃ t, rt = .array t) := by
        intro h6
        unfold rokA at h6
        split at h6
        · exact ⟨_, by assumption, Or.inl ⟨_, rfl⟩⟩
        · exact ⟨_, by assumption, Or.inr ⟨_, rfl⟩⟩
        · cases h6
      rcases pR_inv h1 with ⟨x, st', rfl, h2⟩ | ⟨x, st', rfl, h2⟩ <;>
      · obtain ⟨h3, h4⟩ := gI_inv h2
        simp only [Bool.and_eq_true, decide_eq_true_eq] at h3
        obtain ⟨h5, h6⟩ := h3
        have h5 := List.length_eq_zero_iff.mp h5
        subst h5
        cases h4
        intro H locs ls hP hS hL hO
        obtain ⟨rt, hty, hob⟩ := hrt h6
        exact W.aret hx hb (hr.trans hty) hob (Or.inr ⟨_, rfl⟩) (fun t ht hW => hq hP hS (fun v hv => by cases hv; exact trivial) hO.2.2 t ht hW) hS.2.2 hd hlocks
    | return_ =>
      obtain ⟨rfl, h1⟩ := ck_inv h
      obtain ⟨h3, h4⟩ := gI_inv h1
      simp only [Bool.and_eq_true, decide_eq_true_eq] at h3
      obtain ⟨h5, h6⟩ := h3
      have h5 := List.length_eq_zero_iff.mp h5
      subst h5
      cases h4
      intro H locs ls hP hS hL hO
      have hty : mRt mi = none := by
        unfold rokV at h6
        split at h6
        · assumption
        · cases h6
      exact W.vret hx hb (hr.trans hty) (fun t ht hW => hq hP hS (fun v hv => by cases hv) hO.2.2 t ht hW) hS.2.2 hd hlocks
    | _ => exact absurd rfl hi
theorem kN_7 : kN 7 = "java/lang/String" := rfl
theorem st_call {v : Option AV} {mem1 : AM} (C : Cx p s m args c R mi X ad xa uv cA dC dI A cells slots) (hd : decode (mB mi) pc = .ok (i, len)) (h : stepJ X mi pc al st mem i len = some (.inr (.inl (m', as, rest))))
    (hM : okMI m' → (as.flatMap fl1).length ≤ mN m' → (∀ v ∈ as, okV v) → okM mem → Met l (mY m') (wsM m') (rmM m') (PcM X ad xa uv cA dC dI as mem) (QcM ad xa uv cA dC dI v mem1) 0 0 (aA ad))
    (hn : Nx p l e R s m args below meth c cells slots Q mi ad xa uv cA dC dI A (pc + 3, al, v.toList ++ rest, mem1)) : Nx p l e R s m args below meth c cells slots Q mi ad xa uv cA dC dI A (pc, al, st, mem) := by
  obtain ⟨hx, hb, hml, hown, hts, hK, hE, hAd, hI, hF, hW, hcc, hss⟩ := C
  have hAA : ∀ q, aA ad q → A q := by rintro q ⟨j, h1, rfl⟩; exact hAd j h1
  have hroom : rmk mi m' = true → (rmM m').frames + 1 ≤ R.frames ∧ 8 + (mN m' + 11) + (rmM m').locals ≤ R.locals := by
    intro hr
    unfold rmk at hr
    simp only [Bool.and_eq_true, decide_eq_true_eq] at hr
    exact ⟨Nat.le_trans hr.1 hF, Nat.le_trans hr.2 hW⟩
  have hext : ∀ {H : Heap} {locs : List Loc}, va_S A s.heap H locs → ∀ U : State, U.heap = H → s.WarmedH U.vm → Ext xa uv X (aA ad) U U.heap := by
    intro H locs hS U hU hW
    rw [hU]
    exact ((hE.kept hS.1 hS.2.1).narrow hAA).warm hW
  have hpre : ∀ {H : Heap} {locs : List Loc}, va_P (dC, dI) vwCl (cws ad xa uv cA mem) H → va_S A s.heap H locs → ∀ U : State, U.heap = H → s.WarmedH U.vm → PcM X ad xa uv cA dC dI as mem (as.map (cv ad xa uv)).toArray U := by
    intro H locs hP hS U hU hW
    exact ⟨rfl, by rw [hU]; exact hP, va_K.moved hW.alike hK, hext hS U hU hW⟩
  have hafter : ∀ {H : Heap} {locs : List Loc} {ls : Array Slot}, va_S A s.heap H locs → Lr ad xa uv (mN mi) al ls → (∀ v ∈ al, okV v) → (∀ v ∈ rest, okV v) → ∀ (w : Option Value) (st₀ t : State) (H1 : Heap) (locs1 : List Loc), st₀.heap = H → t.heap = H1 → QcM ad xa uv cA dC dI v mem1 (as.map (cv ad xa uv)).toArray st₀ (.returned w) t → (∀ q ∈ locs1, A q.base) → W p l e R s m args below meth c H1 locs1 cells slots Q (F0 m (pc + 3) ls (w.toList ++ rest.map (cv ad xa uv))) := by
    intro H locs ls hS hL hal hrest w st₀ t H1 locs1 h0 h1 hq hlo
    obtain ⟨⟨hw, hP1, hz, hk⟩, hv, hm1⟩ := hq
    cases hw
    rw [h1] at hP1 hz hk
    rw [h0] at hz hk
    have hS1 : va_S A s.heap H1 locs1 := ⟨Nat.le_trans hS.1 hz, fun q g1 g2 => by rw [hk q (Nat.lt_of_lt_of_le g1 hS.1) (fun z => g2 (hAA q z))]; exact hS.2.1 q g1 g2, hlo⟩
    have hfin := hn H1 locs1 ls hP1 hS1 hL ⟨hal, fun u hu => by
      rcases List.mem_append.mp hu with z | z
      · exact hv u (Option.mem_toList.mp z)
      · exact hrest u z, hm1⟩
    cases v with
    | none => exact hfin
    | some v => exact hfin
  by_cases hi : isCtl i = false
  · obtain ⟨_, hz⟩ := st_noctl hi h
    cases hz
  · cases i with
    | invokevirtual k =>
      obtain ⟨rfl, h1⟩ := ck_inv h
      obtain ⟨x, hxm, h2⟩ := bind_inv h1
      obtain ⟨hx0, h3⟩ := gI_inv h2
      have hx0 : x.1 = 0 := by simpa using hx0
      obtain ⟨hr, hn1, hn2, u, rest', hdr, hr4, hq, hcase⟩ := callVA_inv h3
      have e1 : x.2 = m' ∧ as = u :: (st.take (mP x.2)).reverse ∧ rest = rest' := by cases hq; exact ⟨rfl, rfl, rfl⟩
      obtain ⟨e1, e2, e3⟩ := e1
      subst e3
      obtain ⟨hMI, hini, hk0, -, -⟩ := mth_ok hxm
      dsimp only at hMI hini hk0
      obtain ⟨hl1, hin1, hsel⟩ := hk0 hx0
      rw [e1] at hr hn1 hn2 hdr hcase hMI hini hl1 hin1 hsel e2
      have hst : st = st.take (mP m') ++ u :: rest := by rw [← hdr, List.take_append_drop]
      intro H locs ls hP hS hL hO
      have hoas : ∀ v ∈ as, okV v := by
        intro v hv
        rw [e2] at hv
        refine hO.2.1 v ?_
        show v ∈ st
        rw [hst]
        rcases List.mem_cons.mp hv with z | z
        · rw [z]; exact List.mem_append_right _ List.mem_cons_self
        · exact List.mem_append_left _ (List.mem_reverse.mp z)
      have hors : ∀ v ∈ rest, okV v := fun v hv => hO.2.1 v (by show v ∈ st; rw [hst]; exact List.mem_append_right _ (List.mem_cons_of_mem _ hv))
      have hfl : (as.flatMap fl1).length ≤ mN m' := by
        rw [e2, List.flatMap_cons, List.length_append]
        have hu1 : (fl1 u).length = 1 := by
          rcases hcase with ⟨a, rfl, -⟩ | ⟨j, rfl, -⟩ <;> rfl
        rw [hu1]
        omega
      have hMM := hM hMI hfl hoas hO.2.2
      have hsum := cat_sum (rest.map (cv ad xa uv)) 4 (by rw [List.length_map]; exact hr4)
      have hGI : GoodIn wT (wsV (kN (mK mi)) k (mY m').cls (mY m') (wsM m')) := gT (by
        intro w hw
        rcases List.mem_append.mp hw with z | z
        · simp only [List.mem_cons, List.not_mem_nil, or_false] at z
          rcases z with rfl | rfl | rfl | rfl
          · exact hl1
          · exact hin1
          · exact hsel
          · exact hini
        · rcases List.mem_cons.mp z with z | z
          · rw [z]; exact hMI.2.1
          · exact z)
      have hcw := cwV (R := R) (s := s) (args := args) (bytes := mB m') (maxL := mN m') (ret := mRt m') (rm := rmM m') (mc := 0) (ms := 0) (mP m') hts hGI rfl rfl rfl ⟨rfl, hMI.2.2.1⟩ (hroom hr)
      have key : ∀ b : Addr, cv ad xa uv u = .ref b → (∃ cellB : Cell, H[b]? = some cellB ∧ cellB.vm.isStatics = false ∧ s.vm.findClass (mY m').cls = some cellB.cls) → W p l e R s m args below meth c H locs cells slots Q (F0 m pc ls (st.map (cv ad xa uv))) := by
        intro b hb2 hrec
        have e5 : as.map (cv ad xa uv) = .ref b :: ((st.take (mP m')).reverse.map (cv ad xa uv)) := by rw [e2, List.map_cons, hb2]
        refine va_callG (va_runV (As := (st.take (mP m')).reverse.map (cv ad xa uv)) (rest := rest.map (cv ad xa uv)) (b := b) ⟨hx, hb, hml, hown, hts⟩ hMM hcw ⟨PcM_blind, hrec, fun U hU hW => by rw [← e5]; exact hpre hP hS U hU hW⟩ rfl (by rw [List.length_map, List.length_reverse]; exact hn1) hL.1.1 ?_ (by show 2 * 0 + _ ≤ 8; omega) hd ⟨hcc, hss⟩) hAA hS (by rw [← e5]; exact hafter hS hL hO.1 hors)
        show st.map (cv ad xa uv) = _
        conv => lhs; rw [hst]
        rw [List.map_append, List.map_cons, hb2, List.map_reverse, List.reverse_reverse]
      rcases hcase with ⟨a, rfl, ho, hk6⟩ | ⟨j, rfl, hj, hk7⟩
      · refine key (ad a) rfl ?_
        unfold isO at ho
        split at ho
        · rename_i y hy
          have hy1 : y.1 = mK m' := by simpa using ho
          obtain ⟨⟨C, T, N⟩, hq2⟩ : ∃ q : vw_C, vwCl[mK m']? = some q := by
            cases hv2 : vwCl[mK m']? with
            | none => rw [List.getElem?_eq_none_iff] at hv2; have : vwCl.length = 6 := rfl; omega
            | some q => exact ⟨q, rfl⟩
          have ha : a < 72 := okM_ltO (c := y.1) (fs := y.2) hO.2.2 hy (by omega)
          have hrec := va_recv hK hP (q0 := a) (fs := y.2.map (cv ad xa uv)) hq2 (by rw [cws_get ha]; show some (ad a, ccell ad xa uv cA (mem a)) = _; rw [hy, ← hy1]; rfl)
          rw [vw_kN hq2, hMI.2.2.2] at hrec
          exact hrec
        · cases ho
      · refine key (xa j) rfl ?_
        obtain ⟨k2, rfl⟩ : ∃ k2, j = k2 + 1 := ⟨j - 1, by omega⟩
        have hrec := vk_recv hE.2.1 (i := k2) (by omega) hS
        have h9 : kN (mK m') = "java/lang/String" := by rw [hk7]; rfl
        rw [show (mY m').cls = "java/lang/String" from hMI.2.2.2.symm.trans h9]
        exact hrec
    | invokestatic k =>
      obtain ⟨rfl, h1⟩ := ck_inv h
      split at h1
      · rename_i x hxm
        obtain ⟨hx0, h3⟩ := gI_inv h1
        have hx0 : x.1 = 1 ∨ x.1 = 2 := by simpa using hx0
        obtain ⟨hr, hn1, hn2, hr4, hq⟩ := callSA_inv h3
        have e1 : x.2 = m' ∧ as = (st.take (mP x.2)).reverse ∧ rest = st.drop (mP x.2) := by cases hq; exact ⟨rfl, rfl, rfl⟩
        obtain ⟨e1, e2, e3⟩ := e1
        obtain ⟨hMI, hini, -, hk1, hk2⟩ := mth_ok hxm
        dsimp only at hMI hini hk1 hk2
        rw [e1] at hr hn1 hn2 hr4 hMI hini hk1 hk2 e2 e3
        have hst : st = st.take (mP m') ++ rest := by rw [e3, List.take_append_drop]
        intro H locs ls hP hS hL hO
        have hoas : ∀ v ∈ as, okV v := by
          intro v hv
          rw [e2] at hv
          refine hO.2.1 v ?_
          show v ∈ st
          rw [hst]
          exact List.mem_append_left _ (List.mem_reverse.mp hv)
        have hors : ∀ v ∈ rest, okV v := fun v hv => hO.2.1 v (by show v ∈ st; rw [hst]; exact List.mem_append_right _ hv)
        have hMM := hM hMI (by rw [e2]; exact hn2) hoas hO.2.2
        have hsum := cat_sum (rest.map (cv ad xa uv)) 4 (by rw [List.length_map, e3]; exact hr4)
        have hstk : st.map (cv ad xa uv) = (as.map (cv ad xa uv)).reverse ++ rest.map (cv ad xa uv) := by
          conv => lhs; rw [hst]
          rw [e2, List.map_append, List.map_reverse, List.reverse_reverse]
        have hwsM : ∀ w ∈ wsM m', w ∈ wT := by
          intro w hw
          rcases List.mem_cons.mp hw with z | z
          · rw [z]; exact hMI.2.1
          · exact z
        have hasl : (as.map (cv ad xa uv)).length = mP m' := by rw [List.length_map, e2, List.length_reverse]; exact hn1
        rcases hx0 with hx0 | hx0
        · obtain ⟨hl1, hstt⟩ := hk1 hx0
          have hGI : GoodIn wT (va_wsS (kN (mK mi)) k (mY m') (wsM m')) := gT (by
            intro w hw
            rcases List.mem_append.mp hw with z | z
            · simp only [List.mem_cons, List.not_mem_nil, or_false] at z
              rcases z with rfl | rfl | rfl
              · exact hl1
              · exact hstt
              · exact hini
            · exact hwsM w z)
          have hcw := va_cwS (R := R) (s := s) (args := args) (bytes := mB m') (maxL := mN m') (ret := mRt m') (rm := rmM m') (mc := 0) (ms := 0) (mP m') hts hGI rfl rfl rfl hMI.2.2.1 (hroom hr)
          exact va_callG (va_runS (As := as.map (cv ad xa uv)) (rest := rest.map (cv ad xa uv)) ⟨hx, hb, hml, hown, hts⟩ hMM hcw ⟨PcM_blind, hpre hP hS⟩ rfl hasl hL.1.1 hstk (by show 2 * 0 + _ ≤ 8; omega) hd ⟨hcc, hss⟩) hAA hS (hafter hS hL hO.1 hors)
        · obtain ⟨⟨host, hl1⟩, hstt⟩ := hk2 hx0
          have hcw : va_CN R s args (kN (mK mi)) k (mY m') host (mB m') (mN m') (mRt m') (wsM m') (rmM m') 0 0 (mP m') := va_cnB (mP m') hts (gT hwsM) rfl rfl rfl (hE.2.2.2.2.2 _ hl1) (hts _ hini) hMI.2.2.1 (hroom hr)
          exact va_callG (va_runSN (As := as.map (cv ad xa uv)) (rest := rest.map (cv ad xa uv)) ⟨hx, hb, hml, hown, hts⟩ hMM ⟨hcw, hts _ hstt, trivial⟩ ⟨PcM_blind, hpre hP hS⟩ rfl hasl hL.1.1 hstk (by show 2 * 0 + _ ≤ 8; omega) hd ⟨hcc, hss⟩) hAA hS (hafter hS hL hO.1 hors)
      · split at h1
        · obtain ⟨_, hz⟩ := copyA_inl h1
          cases hz
        · obtain ⟨_, -, h1⟩ := bind_inv h1
          obtain ⟨_, hz⟩ := mathA_inl h1
          cases hz
    | ireturn =>
      obtain ⟨-, h⟩ := ck_inv h
      obtain ⟨_, _, -, h⟩ := p1_inv h
      obtain ⟨-, h⟩ := gI_inv h
      cases h
    | lreturn =>
      obtain ⟨-, h⟩ := ck_inv h
      obtain ⟨_, _, -, h⟩ := pL_inv h
      obtain ⟨-, h⟩ := gI_inv h
      cases h
    | areturn =>
      obtain ⟨-, h⟩ := ck_inv h
      rcases pR_inv h with ⟨_, _, -, h⟩ | ⟨_, _, -, h⟩ <;> (obtain ⟨-, h⟩ := gI_inv h; cases h)
    | return_ =>
      obtain ⟨-, h⟩ := ck_inv h
      obtain ⟨-, h⟩ := gI_inv h
      cases h
    | _ => exact absurd rfl hi
theorem ok_ent (h : ∀ v ∈ as, okV v) (n : Nat) : ∀ v ∈ entL n as, okV v := by
  intro v hv
  unfold entL at hv
  rcases List.mem_append.mp hv with z | z
  · obtain ⟨u, hu, hv2⟩ := List.mem_flatMap.mp z
    unfold fl1 at hv2
    split at hv2
    · simp only [List.mem_cons, List.not_mem_nil, or_false] at hv2
      rcases hv2 with rfl | rfl
      · exact h _ hu
      · exact trivial
    · rw [List.mem_singleton] at hv2
      rw [hv2]
      exact h _ hu
  · rw [List.eq_of_mem_replicate z]
    exact trivial
/-- what a run says: the walk to any end that its return reaches -/
theorem snd_run (hI : ∀ i j, i < 72 → j < 72 → ad i = ad j → i = j) : ∀ (f : Nat) (mi : MI) (pc : Nat) (al st : List AV) (mem : AM) (r : Option AV) (mem' : AM), run X f mi pc al st mem = some (r, mem') → ∀ (p : Program) (e : Env) (R : Room) (s : State) (m : MethodId) (args : Array Value) (below : List Frame) (meth : Method) (c : Code) (cells slots : Nat) (Q : State → Prop) (A : Nat → Prop), Cx p s m args c R mi X ad xa uv cA dC dI A cells slots →
    (∀ (pc' : Nat) (al' st' : List AV) (i : Instr) (len : Nat), decode (mB mi) pc' = .ok (i, len) → stepJ X mi pc' al' st' mem' i len = some (.inr (.inr r)) → Nx p l e R s m args below meth c cells slots Q mi ad xa uv cA dC dI A (pc', al', st', mem')) → Nx p l e R s m args below meth c cells slots Q mi ad xa uv cA dC dI A (pc, al, st, mem) := by
  intro f
  induction f with
  | zero => intro mi pc al st mem r mem' h; cases h
  | succ f ih =>
    intro mi pc al st mem r mem' h p e R s m args below meth c cells slots Q A C hret
    unfold run at h
    cases hs : stepI X mi pc al st mem with
    | none => rw [hs] at h; cases h
    | some q =>
      rw [hs] at h
      have hs2 := hs
      unfold stepI at hs2
      cases hd : decode (mB mi) pc with
      | error _ => rw [hd] at hs2; cases hs2
      | ok iq =>
        obtain ⟨i, len⟩ := iq
        rw [hd] at hs2
        dsimp only at hs2
        cases q with
        | inl x => exact st_go C hd hs2 (ih mi _ _ _ _ r mem' h p e R s m args below meth c cells slots Q A C hret)
        | inr q =>
          cases q with
          | inr r' =>
            cases h
            exact hret pc al st i len hd hs2
          | inl x =>
            obtain ⟨m', as, rest⟩ := x
            dsimp only at h
            cases hc : run X f m' 0 (entL (mN m') as) [] mem with
            | none => rw [hc] at h; cases h
            | some y =>
              rw [hc] at h
              obtain ⟨v, mem1⟩ := y
              refine st_call (v := v) (mem1 := mem1) C hd hs2 (fun hMI hfl hoas hom => ?_) ?_
              · refine Met.ofW (cc := mB m') (maxL := mN m') (ret := mRt m') hMI.1 rfl ?_
                intro p2 e2 s2 m2 args2 below2 meth2 c2 s₁ B hml hv
                obtain ⟨rfl, hP, hK, hE⟩ := hv
                have hu : uv.category = 1 := hE.2.2.2.2.1.2
                have hts := atoms_spec (ws := wsM m') B.pre
                have hown : s2.vm.findClass (kN (mK m')) = some m2.cls := by rw [hMI.2.2.2]; exact findClass_of_methodNamed B.named
                have C2 : Cx p2 s2 m2 (as.map (cv ad xa uv)).toArray c2 (headSpec (wsM m') (rmM m')).room m' X ad xa uv cA dC dI (aA ad) 0 0 :=
                  ⟨B.exec, B.bytes, hml, hown, fun w hw => hts w (List.mem_cons_of_mem _ hw), hK, hE, fun i hi => ⟨i, hi, rfl⟩, hI, Nat.le_refl _, Nat.le_refl _, Nat.zero_le _, Nat.zero_le _⟩
                have hlen : (entL (mN m') as).length = mN m' := by
                  unfold entL
                  rw [List.length_append, List.length_replicate]
                  omega
                have hl := lv_entry (as.map (cv ad xa uv)) (n := mN m') (by rw [sl_len hu]; exact hfl)
                rw [lg_entry_eq]
                refine ih m' 0 (entL (mN m') as) [] mem v mem1 hc p2 e2 (headSpec (wsM m') (rmM m')).room s2 m2 _ below2 meth2 c2 0 0 _ (aA ad) C2 (fun pc' al' st' i len hd h => st_ret C2 B.returns B.notSynchronized hd h) s2.heap [] _ hP va_S.rf ⟨lv_mono hl ?_, hlen⟩ ⟨ok_ent hoas _, fun _ h => (nomatch h), hom⟩
                intro q hq
                rw [lcl_mem] at hq
                exact clm_ent hu _ as [] q.1 (Nat.zero_le _) q hq
              · cases v with
                | none => exact ih mi _ _ _ _ r mem' h p e R s m args below meth c cells slots Q A C hret
                | some v => exact ih mi _ _ _ _ r mem' h p e R s m args below meth c cells slots Q A C hret
end SND
