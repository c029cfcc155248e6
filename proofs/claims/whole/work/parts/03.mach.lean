/-! THE ABSTRACT MACHINE: ints as Int, references by their places, the memory as a function; a step, a run, its value -/
abbrev AV : Type := Int ⊕ Int ⊕ Nat ⊕ Nat ⊕ Nat
abbrev vI (n : Int) : AV := Sum.inl n
abbrev vL (n : Int) : AV := Sum.inr (Sum.inl n)
abbrev vR (i : Nat) : AV := Sum.inr (Sum.inr (Sum.inl i))
abbrev vX (j : Nat) : AV := Sum.inr (Sum.inr (Sum.inr (Sum.inl j)))
abbrev vS : AV := Sum.inr (Sum.inr (Sum.inr (Sum.inr 0)))
abbrev vU : AV := Sum.inr (Sum.inr (Sum.inr (Sum.inr 2)))
abbrev AC : Type := (Nat × List AV) ⊕ List Int
abbrev AM : Type := Nat → AC
abbrev mB (m : MI) : ByteArray := m.1
abbrev mY (m : MI) : MethodName := m.2.1
abbrev mN (m : MI) : Nat := m.2.2.1
abbrev mRt (m : MI) : Option FieldType := m.2.2.2.1
abbrev mK (m : MI) : Nat := m.2.2.2.2.1
abbrev mP (m : MI) : Nat := m.2.2.2.2.2.1
abbrev mF (m : MI) : Nat := m.2.2.2.2.2.2.1
abbrev mW (m : MI) : Nat := m.2.2.2.2.2.2.2
def w32 (n : Int) : Int := (Int32.ofInt n).toInt
def w64 (n : Int) : Int := (Int64.ofInt n).toInt
def and32 (x y : Int) : Int := (Int32.ofInt x &&& Int32.ofInt y).toInt
def or32 (x y : Int) : Int := (Int32.ofInt x ||| Int32.ofInt y).toInt
def xor32 (x y : Int) : Int := (Int32.ofInt x ^^^ Int32.ofInt y).toInt
def shl32 (x y : Int) : Int := (Int32.ofInt x <<< (Int32.ofInt y &&& 31)).toInt
def shr32 (x y : Int) : Int := (Int32.ofInt x >>> (Int32.ofInt y &&& 31)).toInt
def ushr32 (x y : Int) : Int := ((Int32.ofInt x).toUInt32 >>> ((Int32.ofInt y).toUInt32 &&& Int32.toUInt32 31)).toInt32.toInt
def i2c32 (x : Int) : Int := ((Int32.ofInt x).toUInt32 % 65536).toInt32.toInt
def i2b32 (x : Int) : Int := (Int32.ofInt x).toInt8.toInt32.toInt
def lcmp (x y : Int) : Int := if x > y then 1 else if x = y then 0 else -1
def cI (c : Jvm.ClassFile.Cond) (x y : Int) : Bool := match c with
  | .eq => decide (x = y)
  | .ne => !decide (x = y)
  | .lt => decide (x < y)
  | .ge => !decide (x < y)
  | .gt => decide (y < x)
  | .le => !decide (y < x)
def mset (mem : AM) (a : Nat) (c : AC) : AM := fun j => if j = a then c else mem j
def fget (mem : AM) (a c k : Nat) : Option AV := match mem a with
  | .inl x => if x.1 = c then x.2[k]? else none
  | .inr _ => none
def fput (mem : AM) (a c k : Nat) (v : AV) : Option AM := match mem a with
  | .inl x => if x.1 = c ∧ k < x.2.length then some (mset mem a (.inl (c, x.2.set k v))) else none
  | .inr _ => none
def aget (mem : AM) (a : Nat) (i : Int) : Option AV := match mem a with
  | .inl _ => none
  | .inr l => if 0 ≤ i ∧ i < l.length then some (vI (l.getD i.toNat 0)) else none
def alen (mem : AM) (a : Nat) : Option AV := match mem a with
  | .inl _ => none
  | .inr l => some (vI (w32 l.length))
def aput (mem : AM) (a : Nat) (i x : Int) : Option AM := match mem a with
  | .inl _ => none
  | .inr l => if 0 ≤ i ∧ i < l.length then some (mset mem a (.inr (l.set i.toNat x))) else none
def cpy (f g : List Int) (sp dp n : Nat) : List Int := (List.range g.length).map fun k => if dp ≤ k ∧ k < dp + n then f.getD (sp + (k - dp)) 0 else g.getD k 0
def acpy (mem : AM) (s : Nat) (sp : Int) (d : Nat) (dp n : Int) : Option AM := match mem s, mem d with
  | .inr f, .inr g => if 0 ≤ sp ∧ 0 ≤ dp ∧ 0 ≤ n ∧ sp + n ≤ f.length ∧ dp + n ≤ g.length then some (mset mem d (.inr (cpy f g sp.toNat dp.toNat n.toNat))) else none
  | _, _ => none
def isO (mem : AM) (a c : Nat) : Bool := match mem a with
  | .inl x => x.1 == c
  | .inr _ => false
def gR {α : Type} (mem : AM) (a c : Nat) (x : Option α) : Option α := if isO mem a c = true then x else none
def gX {α : Type} (j : Nat) (x : Option α) : Option α := if 1 ≤ j ∧ j ≤ 8 then x else none
/-- the bytes of the String constants -/
def sB (j : Nat) : List Int := match j with
  | 11 => [112, 75, 35, 35, 35, 59]
  | 12 => [104, 35, 35, 35, 35, 59]
  | 13 => [99, 35, 35, 59]
  | 14 => [115, 35, 35, 59]
  | 15 => [109, 35, 35, 59]
  | 16 => [100, 35, 35, 59]
  | 17 => [63]
  | 18 => [112, 115, 114, 98, 108, 99]
  | _ => []
def xfld (c k j : Nat) : Option AV := if 1 ≤ j ∧ j ≤ 8 then (if c = 7 ∧ k = 9 then some (vX (j + 10)) else if c = 7 ∧ k = 15 then some (vI 0) else none) else none
def xget (j : Nat) (i : Int) : Option AV := if 11 ≤ j ∧ j ≤ 18 ∧ 0 ≤ i ∧ i < (sB j).length then some (vI ((sB j).getD i.toNat 0)) else none
def xlen (X : List Int) (j : Nat) : Option AV := if j = 0 then some (vI (w32 X.length)) else if 11 ≤ j ∧ j ≤ 18 then some (vI (w32 (sB j).length)) else none
def sget (X : List Int) (i : Int) : Option AV := if 0 ≤ i ∧ i < X.length then some (vI (X.getD i.toNat 0)) else none
def xst (c k : Nat) : Option AV := if c = 7 ∧ k = 38 then some (vI 1) else if c = 7 ∧ k = 1053 then some vU else none
/-- 1: an int field, 2: a boolean one, 0: one that is not written -/
def fty (ci kf : Nat) : Nat := match vwCl[ci]? with
  | some q => if (q.2.1 kf).2.2.2 = true then 0 else if (q.2.1 kf).2.2.1 = "I" then 1 else if (q.2.1 kf).2.2.1 = "Z" then 2 else 0
  | none => 0
def fok (t : Nat) (v : AV) : Bool := match t, v with
  | 1, .inl _ => true
  | 2, .inl x => decide (x = 0 ∨ x = 1)
  | _, _ => false
def rok (r : Option FieldType) (x : Int) : Bool := match r with
  | some .int => true
  | some .boolean => decide (x = 0 ∨ x = 1)
  | some .char => decide (0 ≤ x ∧ x ≤ 65535)
  | some .byte => decide (-128 ≤ x ∧ x ≤ 127)
  | _ => false
def rokA (r : Option FieldType) : Bool := match r with
  | some (.object _) => true
  | some (.array _) => true
  | _ => false
def rokL (r : Option FieldType) : Bool := match r with
  | some .long => true
  | _ => false
def rokV (r : Option FieldType) : Bool := match r with
  | none => true
  | _ => false
def rmk (m m' : MI) : Bool := decide (mF m' + 1 ≤ mF m) && decide (8 + (mN m' + 11) + mW m' ≤ mW m)
def fl1 (v : AV) : List AV := match v with
  | .inr (.inl x) => [.inr (.inl x), vS]
  | v => [v]
def entL (n : Nat) (as : List AV) : List AV := as.flatMap fl1 ++ List.replicate (n - (as.flatMap fl1).length) vS
abbrev SR : Type := (Nat × List AV × List AV × AM) ⊕ (MI × List AV × List AV) ⊕ Option AV
def go (pc : Nat) (al st : List AV) (mem : AM) : Option SR := some (.inl (pc, al, st, mem))
def ck {α : Type} (a b : Nat) (x : Option α) : Option α := if a = b then x else none
def jm (pc : Nat) (off : Int) (al st : List AV) (mem : AM) : Option SR := if 0 ≤ (pc : Int) + off then go ((pc : Int) + off).toNat al st mem else none
def br (b : Bool) (pc : Nat) (off : Int) (al st : List AV) (mem : AM) : Option SR := if 0 ≤ (pc : Int) + off then (if b = true then go ((pc : Int) + off).toNat al st mem else go (pc + 3) al st mem) else none
def p1 (st : List AV) (f : Int → List AV → Option SR) : Option SR := match st with
  | .inl x :: r => f x r
  | _ => none
def p2 (st : List AV) (f : Int → Int → List AV → Option SR) : Option SR := p1 st fun y r => p1 r fun x r => f x y r
def pL (st : List AV) (f : Int → List AV → Option SR) : Option SR := match st with
  | .inr (.inl x) :: r => f x r
  | _ => none
def pL2 (st : List AV) (f : Int → Int → List AV → Option SR) : Option SR := pL st fun y r => pL r fun x r => f x y r
def pR (st : List AV) (f : Nat → List AV → Option SR) (g : Nat → List AV → Option SR) : Option SR := match st with
  | .inr (.inr (.inl a)) :: r => f a r
  | .inr (.inr (.inr (.inl j))) :: r => g j r
  | _ => none
def c1 (st : List AV) (f : AV → List AV → Option SR) : Option SR := match st with
  | .inl x :: r => f (.inl x) r
  | .inr (.inr v) :: r => f (.inr (.inr v)) r
  | _ => none
def lI (al : List AV) (i : Nat) (f : Int → Option SR) : Option SR := match al[i]? with
  | some (.inl x) => f x
  | _ => none
def lL (al : List AV) (i : Nat) (f : Int → Option SR) : Option SR := match al[i]?, al[i + 1]? with
  | some (.inr (.inl x)), some (.inr (.inr (.inr (.inr 0)))) => f x
  | _, _ => none
def lA (al : List AV) (i : Nat) (f : AV → Option SR) : Option SR := match al[i]? with
  | some (.inr (.inr (.inl a))) => f (vR a)
  | some (.inr (.inr (.inr (.inl j)))) => f (vX j)
  | _ => none
def sT (al : List AV) (i : Nat) (v : AV) (f : List AV → Option SR) : Option SR := if i < al.length then f (al.set i v) else none
def sL (al : List AV) (i : Nat) (x : Int) (f : List AV → Option SR) : Option SR := if i + 1 < al.length then f ((al.set i (vL x)).set (i + 1) vS) else none
def gI (b : Bool) (x : Option SR) : Option SR := if b = true then x else none
def callVA (m m' : MI) (st : List AV) (mem : AM) : Option SR := gI (rmk m m' && decide ((st.take (mP m')).length = mP m') && decide (((st.take (mP m')).reverse.flatMap fl1).length + 1 ≤ mN m')) (pR (st.drop (mP m'))
  (fun a r => gI (decide (r.length ≤ 4) && isO mem a (mK m') && decide (mK m' < 6)) (some (.inr (.inl (m', vR a :: (st.take (mP m')).reverse, r)))))
  (fun j r => gI (decide (r.length ≤ 4) && decide (1 ≤ j ∧ j ≤ 8) && decide (mK m' = 7)) (some (.inr (.inl (m', vX j :: (st.take (mP m')).reverse, r))))))
def callSA (m m' : MI) (st : List AV) : Option SR := gI (rmk m m' && decide ((st.take (mP m')).length = mP m') && decide (((st.take (mP m')).reverse.flatMap fl1).length ≤ mN m') && decide ((st.drop (mP m')).length ≤ 4)) (some (.inr (.inl (m', (st.take (mP m')).reverse, st.drop (mP m')))))
def copyA (m : MI) (pc : Nat) (al st : List AV) (mem : AM) : Option SR := p2 st fun dp n r => pR r (fun d r => p1 r fun sp r => pR r (fun s r => gI (decide (r.length ≤ 4) && decide (1 ≤ mF m) && decide (26 ≤ mW m)) ((acpy mem s sp d dp n).bind fun mem' => go (pc + 3) al r mem')) (fun _ _ => none)) (fun _ _ => none)
def mathA (m : MI) (q : Nat) (pc : Nat) (al st : List AV) (mem : AM) : Option SR := gI (decide (1 ≤ mF m) && decide (21 ≤ mW m)) (match q with
  | 0 => p2 st fun x y r => gI (decide (r.length ≤ 4)) (go (pc + 3) al (vI (if x < y then y else x) :: r) mem)
  | 1 => p2 st fun x y r => gI (decide (r.length ≤ 4)) (go (pc + 3) al (vI (if y < x then y else x) :: r) mem)
  | _ => p1 st fun x r => gI (decide (r.length ≤ 4)) (go (pc + 3) al (vI (w32 (if 0 ≤ x then x else 0 - x)) :: r) mem))
def swT (d lo hi : Int) (offs : Array Int) (pc : Nat) (al st : List AV) (mem : AM) (x : Int) : Option SR := if x < lo ∨ hi < x then jm pc d al st mem else (offs[(x - lo).toNat]?).bind fun off => jm pc off al st mem
def swL (d : Int) (ps : Array (Int × Int)) (pc : Nat) (al st : List AV) (mem : AM) (x : Int) : Option SR := gI ((ps.toList.zip (ps.toList.drop 1)).all (fun (a, next) => a.1 < next.1)) (jm pc (Op.lookupswitch.offset ps.toList d x) al st mem)
def stepJ (X : List Int) (m : MI) (pc : Nat) (al st : List AV) (mem : AM) (i : Instr) (len : Nat) : Option SR := match i with
  | .iconst n => ck len 1 (go (pc + 1) al (vI (w32 n) :: st) mem)
  | .bipush n => ck len 2 (go (pc + 2) al (vI (Int8.ofInt n).toInt32.toInt :: st) mem)
  | .sipush n => ck len 3 (go (pc + 3) al (vI (Int16.ofInt n).toInt32.toInt :: st) mem)
  | .lconst n => ck len 1 (go (pc + 1) al (vL ((n : Nat) : Int) :: st) mem)
  | .ldc k => ck len 2 (match conI (mK m) k with
    | some n => go (pc + 2) al (vI (w32 n) :: st) mem
    | none => (conS (mK m) k).bind fun j => go (pc + 2) al (vX j :: st) mem)
  | .ldc_w k => ck len 3 ((conI (mK m) k).bind fun n => go (pc + 3) al (vI (w32 n) :: st) mem)
  | .ldc2_w k => ck len 3 ((conL (mK m) k).bind fun n => go (pc + 3) al (vL (w64 n) :: st) mem)
  | .iload_n k => ck len 1 (lI al k fun x => go (pc + 1) al (vI x :: st) mem)
  | .iload k => ck len 2 (lI al k fun x => go (pc + 2) al (vI x :: st) mem)
  | .lload_n k => ck len 1 (lL al k fun x => go (pc + 1) al (vL x :: st) mem)
  | .lload k => ck len 2 (lL al k fun x => go (pc + 2) al (vL x :: st) mem)
  | .aload_n k => ck len 1 (lA al k fun v => go (pc + 1) al (v :: st) mem)
  | .aload k => ck len 2 (lA al k fun v => go (pc + 2) al (v :: st) mem)
  | .istore_n k => ck len 1 (p1 st fun x r => sT al k (vI x) fun al' => go (pc + 1) al' r mem)
  | .istore k => ck len 2 (p1 st fun x r => sT al k (vI x) fun al' => go (pc + 2) al' r mem)
  | .lstore k => ck len 2 (pL st fun x r => sL al k x fun al' => go (pc + 2) al' r mem)
  | .astore_n k => ck len 1 (pR st (fun a r => sT al k (vR a) fun al' => go (pc + 1) al' r mem) (fun j r => sT al k (vX j) fun al' => go (pc + 1) al' r mem))
  | .astore k => ck len 2 (pR st (fun a r => sT al k (vR a) fun al' => go (pc + 2) al' r mem) (fun j r => sT al k (vX j) fun al' => go (pc + 2) al' r mem))
  | .iinc k n => ck len 3 (lI al k fun x => sT al k (vI (w32 (x + n))) fun al' => go (pc + 3) al' st mem)
  | .iadd => ck len 1 (p2 st fun x y r => go (pc + 1) al (vI (w32 (x + y)) :: r) mem)
  | .isub => ck len 1 (p2 st fun x y r => go (pc + 1) al (vI (w32 (x - y)) :: r) mem)
  | .imul => ck len 1 (p2 st fun x y r => go (pc + 1) al (vI (w32 (x * y)) :: r) mem)
  | .idiv => ck len 1 (p2 st fun x y r => gI (!decide (y = 0)) (go (pc + 1) al (vI (w32 (x.tdiv y)) :: r) mem))
  | .irem => ck len 1 (p2 st fun x y r => gI (!decide (y = 0)) (go (pc + 1) al (vI (w32 (x.tmod y)) :: r) mem))
  | .iand => ck len 1 (p2 st fun x y r => go (pc + 1) al (vI (and32 x y) :: r) mem)
  | .ior => ck len 1 (p2 st fun x y r => go (pc + 1) al (vI (or32 x y) :: r) mem)
  | .ixor => ck len 1 (p2 st fun x y r => go (pc + 1) al (vI (xor32 x y) :: r) mem)
  | .ishl => ck len 1 (p2 st fun x y r => go (pc + 1) al (vI (shl32 x y) :: r) mem)
  | .ishr => ck len 1 (p2 st fun x y r => go (pc + 1) al (vI (shr32 x y) :: r) mem)
  | .iushr => ck len 1 (p2 st fun x y r => go (pc + 1) al (vI (ushr32 x y) :: r) mem)
  | .ineg => ck len 1 (p1 st fun x r => go (pc + 1) al (vI (w32 (-x)) :: r) mem)
  | .i2c => ck len 1 (p1 st fun x r => go (pc + 1) al (vI (i2c32 x) :: r) mem)
  | .i2b => ck len 1 (p1 st fun x r => go (pc + 1) al (vI (i2b32 x) :: r) mem)
  | .i2l => ck len 1 (p1 st fun x r => go (pc + 1) al (vL x :: r) mem)
  | .ladd => ck len 1 (pL2 st fun x y r => go (pc + 1) al (vL (w64 (x + y)) :: r) mem)
  | .lsub => ck len 1 (pL2 st fun x y r => go (pc + 1) al (vL (w64 (x - y)) :: r) mem)
  | .lmul => ck len 1 (pL2 st fun x y r => go (pc + 1) al (vL (w64 (x * y)) :: r) mem)
  | .ldiv => ck len 1 (pL2 st fun x y r => gI (!decide (y = 0)) (go (pc + 1) al (vL (w64 (x.tdiv y)) :: r) mem))
  | .lrem => ck len 1 (pL2 st fun x y r => gI (!decide (y = 0)) (go (pc + 1) al (vL (w64 (x.tmod y)) :: r) mem))
  | .lcmp => ck len 1 (pL2 st fun x y r => go (pc + 1) al (vI (lcmp x y) :: r) mem)
  | .dup => ck len 1 (c1 st fun v r => go (pc + 1) al (v :: v :: r) mem)
  | .dup2 => ck len 1 (c1 st fun v r => c1 r fun w r => go (pc + 1) al (v :: w :: v :: w :: r) mem)
  | .pop => ck len 1 (c1 st fun _ r => go (pc + 1) al r mem)
  | .iaload => ck len 1 (p1 st fun i r => pR r (fun a r => (aget mem a i).bind fun v => go (pc + 1) al (v :: r) mem) (fun j r => gI (decide (j = 0)) ((sget X i).bind fun v => go (pc + 1) al (v :: r) mem)))
  | .baload => ck len 1 (p1 st fun i r => pR r (fun _ _ => none) (fun j r => (xget j i).bind fun v => go (pc + 1) al (v :: r) mem))
  | .arraylength => ck len 1 (pR st (fun a r => (alen mem a).bind fun v => go (pc + 1) al (v :: r) mem) (fun j r => (xlen X j).bind fun v => go (pc + 1) al (v :: r) mem))
  | .iastore => ck len 1 (p2 st fun i x r => pR r (fun a r => (aput mem a i x).bind fun mem' => go (pc + 1) al r mem') (fun _ _ => none))
  | .getfield k => ck len 3 (pR st (fun a r => (fld (mK m) k).bind fun q => (fget mem a q.1 q.2).bind fun v => go (pc + 3) al (v :: r) mem) (fun j r => (xfld (mK m) k j).bind fun v => go (pc + 3) al (v :: r) mem))
  | .putfield k => ck len 3 (p1 st fun x r => pR r (fun a r => (fld (mK m) k).bind fun q => gI (fok (fty q.1 q.2) (vI x)) ((fput mem a q.1 q.2 (vI x)).bind fun mem' => go (pc + 3) al r mem')) (fun _ _ => none))
  | .getstatic k => ck len 3 ((xst (mK m) k).bind fun v => go (pc + 3) al (v :: st) mem)
  | .goto off => ck len 3 (jm pc off al st mem)
  | .if_icmp c off => ck len 3 (p2 st fun x y r => br (cI c x y) pc off al r mem)
  | .ifCond c off => ck len 3 (p1 st fun x r => br (cI c x 0) pc off al r mem)
  | .ifnonnull off => ck len 3 (pR st (fun _ r => jm pc off al r mem) (fun _ _ => none))
  | .tableswitch d lo hi offs => p1 st fun x r => swT d lo hi offs pc al r mem x
  | .lookupswitch d ps => p1 st fun x r => swL d ps pc al r mem x
  | .invokevirtual k => ck len 3 ((mth (mK m) k).bind fun q => gI (decide (q.1 = 0)) (callVA m q.2 st mem))
  | .invokestatic k => ck len 3 (match mth (mK m) k with
    | some q => gI (decide (q.1 = 1 ∨ q.1 = 2)) (callSA m q.2 st)
    | none => if isAC (mK m) k = true then copyA m pc al st mem else (mthM (mK m) k).bind fun q => mathA m q pc al st mem)
  | .ireturn => ck len 1 (p1 st fun x r => gI (decide (r.length = 0) && rok (mRt m) x) (some (.inr (.inr (some (vI x))))))
  | .lreturn => ck len 1 (pL st fun x r => gI (decide (r.length = 0) && rokL (mRt m)) (some (.inr (.inr (some (vL x))))))
  | .areturn => ck len 1 (pR st (fun a r => gI (decide (r.length = 0) && rokA (mRt m)) (some (.inr (.inr (some (vR a)))))) (fun j r => gI (decide (r.length = 0) && rokA (mRt m)) (some (.inr (.inr (some (vX j)))))))
  | .return_ => ck len 1 (gI (decide (st.length = 0) && rokV (mRt m)) (some (.inr (.inr none))))
  | _ => none
def stepI (X : List Int) (m : MI) (pc : Nat) (al st : List AV) (mem : AM) : Option SR := match decode (mB m) pc with
  | .ok q => stepJ X m pc al st mem q.1 q.2
  | .error _ => none
def run (X : List Int) : Nat → MI → Nat → List AV → List AV → AM → Option (Option AV × AM)
  | 0, _, _, _, _, _ => none
  | f + 1, m, pc, al, st, mem => match stepI X m pc al st mem with
    | none => none
    | some (.inl x) => run X f m x.1 x.2.1 x.2.2.1 x.2.2.2
    | some (.inr (.inl x)) => (match run X f x.1 0 (entL (mN x.1) x.2.1) [] mem with
      | none => none
      | some (some v, mem') => run X f m (pc + 3) al (v :: x.2.2) mem'
      | some (none, mem') => run X f m (pc + 3) al x.2.2 mem')
    | some (.inr (.inr r)) => some (r, mem)
theorem run_up {X : List Int} : ∀ (f : Nat) {m : MI} {pc : Nat} {al st : List AV} {mem : AM} {o : Option AV × AM}, run X f m pc al st mem = some o → run X (f + 1) m pc al st mem = some o
  | 0, _, _, _, _, _, _, h => by cases h
  | f + 1, m, pc, al, st, mem, o, h => by
    unfold run at h ⊢
    cases hs : stepI X m pc al st mem with
    | none => rw [hs] at h; cases h
    | some x =>
      rw [hs] at h
      cases x with
      | inl x => exact run_up f h
      | inr x =>
        cases x with
        | inr r => exact h
        | inl x =>
          dsimp only at h ⊢
          cases hc : run X f x.1 0 (entL (mN x.1) x.2.1) [] mem with
          | none => rw [hc] at h; cases h
          | some y =>
            rw [run_up f hc]
            rw [hc] at h
            obtain ⟨v, mem'⟩ := y
            cases v with
            | none => exact run_up f h
            | some v => exact run_up f h
theorem run_le {X : List Int} {f g : Nat} (hg : f ≤ g) {m : MI} {pc : Nat} {al st : List AV} {mem : AM} {o : Option AV × AM} (h : run X f m pc al st mem = some o) : run X g m pc al st mem = some o := by
  induction hg with
  | refl => exact h
  | step _ ih => exact run_up _ ih
theorem run_det {X : List Int} {f g : Nat} {m : MI} {pc : Nat} {al st : List AV} {mem : AM} {o o' : Option AV × AM} (h : run X f m pc al st mem = some o) (h' : run X g m pc al st mem = some o') : o = o' :=
  Option.some.inj ((run_le (Nat.le_max_left f g) h).symm.trans (run_le (Nat.le_max_right f g) h'))
/-- the value of a run -/
noncomputable def ev (X : List Int) (m : MI) (pc : Nat) (al st : List AV) (mem : AM) : Option (Option AV × AM) :=
  haveI := Classical.propDecidable (∃ f o, run X f m pc al st mem = some o)
  if h : ∃ f o, run X f m pc al st mem = some o then run X h.choose m pc al st mem else none
theorem ev_iff {X : List Int} {m : MI} {pc : Nat} {al st : List AV} {mem : AM} {o : Option AV × AM} : ev X m pc al st mem = some o ↔ ∃ f, run X f m pc al st mem = some o := by
  unfold ev
  by_cases h : ∃ f o, run X f m pc al st mem = some o
  · rw [dif_pos h]
    obtain ⟨o', ho'⟩ := h.choose_spec
    constructor
    · exact fun q => ⟨_, q⟩
    · rintro ⟨f, hf⟩
      rw [ho', run_det ho' hf]
  · rw [dif_neg h]
    constructor
    · intro q; cases q
    · rintro ⟨f, hf⟩
      exact absurd ⟨f, o, hf⟩ h
theorem ev_ext {a b : Option (Option AV × AM)} (h : ∀ o, a = some o ↔ b = some o) : a = b := by
  cases a with
  | none =>
    cases b with
    | none => rfl
    | some b => exact absurd ((h b).mpr rfl) (by simp)
  | some a => exact ((h a).mp rfl).symm
theorem ev_go {X : List Int} {m : MI} {pc pc' : Nat} {al al' st st' : List AV} {mem mem' : AM} (h : stepI X m pc al st mem = some (.inl (pc', al', st', mem'))) : ev X m pc al st mem = ev X m pc' al' st' mem' := by
  refine ev_ext fun o => ?_
  rw [ev_iff, ev_iff]
  constructor
  · rintro ⟨f, hf⟩
    cases f with
    | zero => cases hf
    | succ f => unfold run at hf; rw [h] at hf; exact ⟨f, hf⟩
  · rintro ⟨f, hf⟩
    exact ⟨f + 1, by unfold run; rw [h]; exact hf⟩
theorem ev_ret {X : List Int} {m : MI} {pc : Nat} {al st : List AV} {mem : AM} {r : Option AV} (h : stepI X m pc al st mem = some (.inr (.inr r))) : ev X m pc al st mem = some (r, mem) :=
  ev_iff.mpr ⟨1, by unfold run; rw [h]⟩
/-- goes on behind a call -/
noncomputable def evc (X : List Int) (o : Option (Option AV × AM)) (m : MI) (pc : Nat) (al st : List AV) : Option (Option AV × AM) := match o with
  | none => none
  | some (some v, mem) => ev X m pc al (v :: st) mem
  | some (none, mem) => ev X m pc al st mem
noncomputable def evb (X : List Int) (o : Option AV) (m : MI) (pc : Nat) (al st : List AV) (mem : AM) : Option (Option AV × AM) := match o with
  | none => none
  | some v => ev X m pc al (v :: st) mem
noncomputable def evm (X : List Int) (o : Option AM) (m : MI) (pc : Nat) (al st : List AV) : Option (Option AV × AM) := match o with
  | none => none
  | some mem => ev X m pc al st mem
theorem evc_some {X : List Int} {v : AV} {mem : AM} {m : MI} {pc : Nat} {al st : List AV} : evc X (some (some v, mem)) m pc al st = ev X m pc al (v :: st) mem := rfl
theorem evc_none {X : List Int} {mem : AM} {m : MI} {pc : Nat} {al st : List AV} : evc X (some (none, mem)) m pc al st = ev X m pc al st mem := rfl
theorem evb_some {X : List Int} {v : AV} {mem : AM} {m : MI} {pc : Nat} {al st : List AV} : evb X (some v) m pc al st mem = ev X m pc al (v :: st) mem := rfl
theorem evm_some {X : List Int} {mem : AM} {m : MI} {pc : Nat} {al st : List AV} : evm X (some mem) m pc al st = ev X m pc al st mem := rfl
theorem ev_call {X : List Int} {m m' : MI} {pc : Nat} {al st as rest : List AV} {mem : AM} (h : stepI X m pc al st mem = some (.inr (.inl (m', as, rest)))) : ev X m pc al st mem = evc X (ev X m' 0 (entL (mN m') as) [] mem) m (pc + 3) al rest := by
  refine ev_ext fun o => ?_
  constructor
  · intro q
    obtain ⟨f, hf⟩ := ev_iff.mp q
    cases f with
    | zero => cases hf
    | succ f =>
      unfold run at hf
      rw [h] at hf
      dsimp only at hf
      cases hc : run X f m' 0 (entL (mN m') as) [] mem with
      | none => rw [hc] at hf; cases hf
      | some y =>
        rw [hc] at hf
        rw [ev_iff.mpr ⟨f, hc⟩]
        obtain ⟨v, mem'⟩ := y
        cases v with
        | none => exact ev_iff.mpr ⟨f, hf⟩
        | some v => exact ev_iff.mpr ⟨f, hf⟩
  · intro q
    cases hc : ev X m' 0 (entL (mN m') as) [] mem with
    | none => rw [hc] at q; cases q
    | some y =>
      rw [hc] at q
      obtain ⟨g, hg⟩ := ev_iff.mp hc
      obtain ⟨v, mem'⟩ := y
      have key : ∃ f, (match (some (v, mem') : Option (Option AV × AM)) with
        | none => none
        | some (some v, mem') => run X f m (pc + 3) al (v :: rest) mem'
        | some (none, mem') => run X f m (pc + 3) al rest mem') = some o := by
        cases v with
        | none => exact ev_iff.mp q
        | some v => exact ev_iff.mp q
      obtain ⟨f, hf⟩ := key
      refine ev_iff.mpr ⟨max f g + 1, ?_⟩
      unfold run
      rw [h]
      dsimp only
      rw [run_le (Nat.le_max_right f g) hg]
      cases v with
      | none => exact run_le (Nat.le_max_left f g) hf
      | some v => exact run_le (Nat.le_max_left f g) hf
section KE
variable {X : List Int} {m m' : MI} {pc t k i len : Nat} {al al' st rest : List AV} {mem : AM} {n off x y : Int} {v w : AV} {a j : Nat}
theorem si_of {q : Instr × Nat} (hd : decode (mB m) pc = .ok q) : stepI X m pc al st mem = stepJ X m pc al st mem q.1 q.2 := by unfold stepI; rw [hd]

theorem ke_iconst (hv : w32 n = x) (hd : decode (mB m) pc = .ok (.iconst n, 1)) : ev X m pc al st mem = ev X m (pc + 1) al (vI x :: st) mem := by
  refine (ev_go ((si_of hd).trans ?_)).trans rfl
  simp [stepJ, ck, go, hv]
theorem ke_bipush (hv : (Int8.ofInt n).toInt32.toInt = x) (hd : decode (mB m) pc = .ok (.bipush n, 2)) : ev X m pc al st mem = ev X m (pc + 2) al (vI x :: st) mem := by
  refine (ev_go ((si_of hd).trans ?_)).trans rfl
  simp [stepJ, ck, go, hv]
theorem ke_sipush (hv : (Int16.ofInt n).toInt32.toInt = x) (hd : decode (mB m) pc = .ok (.sipush n, 3)) : ev X m pc al st mem = ev X m (pc + 3) al (vI x :: st) mem := by
  refine (ev_go ((si_of hd).trans ?_)).trans rfl
  simp [stepJ, ck, go, hv]
theorem ke_lconst {n : Fin 2} {x : Int} (hv : ((n : Nat) : Int) = x) (hd : decode (mB m) pc = .ok (.lconst n, 1)) : ev X m pc al st mem = ev X m (pc + 1) al (vL x :: st) mem := by
  refine (ev_go ((si_of hd).trans ?_)).trans rfl
  simp [stepJ, ck, go, hv]
theorem ke_ldcI (hc : conI (mK m) k = some n) (hv : w32 n = x) (hd : decode (mB m) pc = .ok (.ldc k, 2)) : ev X m pc al st mem = ev X m (pc + 2) al (vI x :: st) mem := by
  refine (ev_go ((si_of hd).trans ?_)).trans rfl
  simp [stepJ, ck, go, hc, hv]
theorem ke_ldcS (hc : conI (mK m) k = none) (hs : conS (mK m) k = some j) (hd : decode (mB m) pc = .ok (.ldc k, 2)) : ev X m pc al st mem = ev X m (pc + 2) al (vX j :: st) mem := by
  refine (ev_go ((si_of hd).trans ?_)).trans rfl
  simp [stepJ, ck, go, hc, hs]
theorem ke_ldcw (hc : conI (mK m) k = some n) (hv : w32 n = x) (hd : decode (mB m) pc = .ok (.ldc_w k, 3)) : ev X m pc al st mem = ev X m (pc + 3) al (vI x :: st) mem := by
  refine (ev_go ((si_of hd).trans ?_)).trans rfl
  simp [stepJ, ck, go, hc, hv]
theorem ke_ldc2 (hc : conL (mK m) k = some n) (hv : w64 n = x) (hd : decode (mB m) pc = .ok (.ldc2_w k, 3)) : ev X m pc al st mem = ev X m (pc + 3) al (vL x :: st) mem := by
  refine (ev_go ((si_of hd).trans ?_)).trans rfl
  simp [stepJ, ck, go, hc, hv]
theorem ke_iload_n {k : Fin 4} (hl : al[(k : Nat)]? = some (vI x)) (hd : decode (mB m) pc = .ok (.iload_n k, 1)) : ev X m pc al st mem = ev X m (pc + 1) al (vI x :: st) mem := by
  refine (ev_go ((si_of hd).trans ?_)).trans rfl
  simp [stepJ, ck, go, lI, hl]
theorem ke_lload_n {k : Fin 4} (hl : al[(k : Nat)]? = some (vL x)) (hl2 : al[(k : Nat) + 1]? = some vS) (hd : decode (mB m) pc = .ok (.lload_n k, 1)) : ev X m pc al st mem = ev X m (pc + 1) al (vL x :: st) mem := by
  refine (ev_go ((si_of hd).trans ?_)).trans rfl
  simp [stepJ, ck, go, lL, hl, hl2]
theorem ke_aload_n {k : Fin 4} (hl : al[(k : Nat)]? = some (vR a)) (hd : decode (mB m) pc = .ok (.aload_n k, 1)) : ev X m pc al st mem = ev X m (pc + 1) al (vR a :: st) mem := by
  refine (ev_go ((si_of hd).trans ?_)).trans rfl
  simp [stepJ, ck, go, lA, hl]
theorem ke_xload_n {k : Fin 4} (hl : al[(k : Nat)]? = some (vX j)) (hd : decode (mB m) pc = .ok (.aload_n k, 1)) : ev X m pc al st mem = ev X m (pc + 1) al (vX j :: st) mem := by
  refine (ev_go ((si_of hd).trans ?_)).trans rfl
  simp [stepJ, ck, go, lA, hl]
theorem ke_istore_n {k : Fin 4} (hi : (k : Nat) < al.length) (hl : al.set (k : Nat) (vI x) = al') (hd : decode (mB m) pc = .ok (.istore_n k, 1)) : ev X m pc al (vI x :: st) mem = ev X m (pc + 1) al' st mem := by
  refine (ev_go ((si_of hd).trans ?_)).trans rfl
  simp [stepJ, ck, go, p1, sT, hi, hl]
theorem ke_astore_n {k : Fin 4} (hi : (k : Nat) < al.length) (hl : al.set (k : Nat) (vR a) = al') (hd : decode (mB m) pc = .ok (.astore_n k, 1)) : ev X m pc al (vR a :: st) mem = ev X m (pc + 1) al' st mem := by
  refine (ev_go ((si_of hd).trans ?_)).trans rfl
  simp [stepJ, ck, go, pR, sT, hi, hl]
theorem ke_xstore_n {k : Fin 4} (hi : (k : Nat) < al.length) (hl : al.set (k : Nat) (vX j) = al') (hd : decode (mB m) pc = .ok (.astore_n k, 1)) : ev X m pc al (vX j :: st) mem = ev X m (pc + 1) al' st mem := by
  refine (ev_go ((si_of hd).trans ?_)).trans rfl
  simp [stepJ, ck, go, pR, sT, hi, hl]
theorem ke_iload  (hl : al[k]? = some (vI x)) (hd : decode (mB m) pc = .ok (.iload k, 2)) : ev X m pc al st mem = ev X m (pc + 2) al (vI x :: st) mem := by
  refine (ev_go ((si_of hd).trans ?_)).trans rfl
  simp [stepJ, ck, go, lI, hl]
theorem ke_lload  (hl : al[k]? = some (vL x)) (hl2 : al[k + 1]? = some vS) (hd : decode (mB m) pc = .ok (.lload k, 2)) : ev X m pc al st mem = ev X m (pc + 2) al (vL x :: st) mem := by
  refine (ev_go ((si_of hd).trans ?_)).trans rfl
  simp [stepJ, ck, go, lL, hl, hl2]
theorem ke_aload  (hl : al[k]? = some (vR a)) (hd : decode (mB m) pc = .ok (.aload k, 2)) : ev X m pc al st mem = ev X m (pc + 2) al (vR a :: st) mem := by
  refine (ev_go ((si_of hd).trans ?_)).trans rfl
  simp [stepJ, ck, go, lA, hl]
theorem ke_xload  (hl : al[k]? = some (vX j)) (hd : decode (mB m) pc = .ok (.aload k, 2)) : ev X m pc al st mem = ev X m (pc + 2) al (vX j :: st) mem := by
  refine (ev_go ((si_of hd).trans ?_)).trans rfl
  simp [stepJ, ck, go, lA, hl]
theorem ke_istore  (hi : k < al.length) (hl : al.set k (vI x) = al') (hd : decode (mB m) pc = .ok (.istore k, 2)) : ev X m pc al (vI x :: st) mem = ev X m (pc + 2) al' st mem := by
  refine (ev_go ((si_of hd).trans ?_)).trans rfl
  simp [stepJ, ck, go, p1, sT, hi, hl]
theorem ke_astore  (hi : k < al.length) (hl : al.set k (vR a) = al') (hd : decode (mB m) pc = .ok (.astore k, 2)) : ev X m pc al (vR a :: st) mem = ev X m (pc + 2) al' st mem := by
  refine (ev_go ((si_of hd).trans ?_)).trans rfl
  simp [stepJ, ck, go, pR, sT, hi, hl]
theorem ke_xstore  (hi : k < al.length) (hl : al.set k (vX j) = al') (hd : decode (mB m) pc = .ok (.astore k, 2)) : ev X m pc al (vX j :: st) mem = ev X m (pc + 2) al' st mem := by
  refine (ev_go ((si_of hd).trans ?_)).trans rfl
  simp [stepJ, ck, go, pR, sT, hi, hl]
theorem ke_lstore (hi : k + 1 < al.length) (hl : (al.set k (vL x)).set (k + 1) vS = al') (hd : decode (mB m) pc = .ok (.lstore k, 2)) : ev X m pc al (vL x :: st) mem = ev X m (pc + 2) al' st mem := by
  refine (ev_go ((si_of hd).trans ?_)).trans rfl
  simp [stepJ, ck, go, pL, sL, hi, hl]
theorem ke_iinc (hk : al[k]? = some (vI x)) (hi : k < al.length) (hl : al.set k (vI (w32 (x + n))) = al') (hd : decode (mB m) pc = .ok (.iinc k n, 3)) : ev X m pc al st mem = ev X m (pc + 3) al' st mem := by
  refine ev_go ((si_of hd).trans ?_)
  simp only [stepJ]
  unfold ck lI sT
  rw [if_pos rfl, hk]
  dsimp only
  rw [if_pos hi, hl]
  rfl
theorem ke_iadd  (hd : decode (mB m) pc = .ok (.iadd, 1)) : ev X m pc al (vI y :: vI x :: st) mem = ev X m (pc + 1) al (vI (w32 (x + y)) :: st) mem := by
  refine (ev_go ((si_of hd).trans ?_)).trans rfl
  simp [stepJ, ck, go, p1, p2]
theorem ke_isub  (hd : decode (mB m) pc = .ok (.isub, 1)) : ev X m pc al (vI y :: vI x :: st) mem = ev X m (pc + 1) al (vI (w32 (x - y)) :: st) mem := by
  refine (ev_go ((si_of hd).trans ?_)).trans rfl
  simp [stepJ, ck, go, p1, p2]
theorem ke_imul  (hd : decode (mB m) pc = .ok (.imul, 1)) : ev X m pc al (vI y :: vI x :: st) mem = ev X m (pc + 1) al (vI (w32 (x * y)) :: st) mem := by
  refine (ev_go ((si_of hd).trans ?_)).trans rfl
  simp [stepJ, ck, go, p1, p2]
theorem ke_iand  (hd : decode (mB m) pc = .ok (.iand, 1)) : ev X m pc al (vI y :: vI x :: st) mem = ev X m (pc + 1) al (vI (and32 x y) :: st) mem := by
  refine (ev_go ((si_of hd).trans ?_)).trans rfl
  simp [stepJ, ck, go, p1, p2]
theorem ke_ior  (hd : decode (mB m) pc = .ok (.ior, 1)) : ev X m pc al (vI y :: vI x :: st) mem = ev X m (pc + 1) al (vI (or32 x y) :: st) mem := by
  refine (ev_go ((si_of hd).trans ?_)).trans rfl
  simp [stepJ, ck, go, p1, p2]
theorem ke_ixor  (hd : decode (mB m) pc = .ok (.ixor, 1)) : ev X m pc al (vI y :: vI x :: st) mem = ev X m (pc + 1) al (vI (xor32 x y) :: st) mem := by
  refine (ev_go ((si_of hd).trans ?_)).trans rfl
  simp [stepJ, ck, go, p1, p2]
theorem ke_ishl  (hd : decode (mB m) pc = .ok (.ishl, 1)) : ev X m pc al (vI y :: vI x :: st) mem = ev X m (pc + 1) al (vI (shl32 x y) :: st) mem := by
  refine (ev_go ((si_of hd).trans ?_)).trans rfl
  simp [stepJ, ck, go, p1, p2]
theorem ke_ishr  (hd : decode (mB m) pc = .ok (.ishr, 1)) : ev X m pc al (vI y :: vI x :: st) mem = ev X m (pc + 1) al (vI (shr32 x y) :: st) mem := by
  refine (ev_go ((si_of hd).trans ?_)).trans rfl
  simp [stepJ, ck, go, p1, p2]
theorem ke_iushr  (hd : decode (mB m) pc = .ok (.iushr, 1)) : ev X m pc al (vI y :: vI x :: st) mem = ev X m (pc + 1) al (vI (ushr32 x y) :: st) mem := by
  refine (ev_go ((si_of hd).trans ?_)).trans rfl
  simp [stepJ, ck, go, p1, p2]
theorem ke_ineg  (hd : decode (mB m) pc = .ok (.ineg, 1)) : ev X m pc al (vI x :: st) mem = ev X m (pc + 1) al (vI (w32 (-x)) :: st) mem := by
  refine (ev_go ((si_of hd).trans ?_)).trans rfl
  simp [stepJ, ck, go, p1]
theorem ke_i2c  (hd : decode (mB m) pc = .ok (.i2c, 1)) : ev X m pc al (vI x :: st) mem = ev X m (pc + 1) al (vI (i2c32 x) :: st) mem := by
  refine (ev_go ((si_of hd).trans ?_)).trans rfl
  simp [stepJ, ck, go, p1]
theorem ke_i2b  (hd : decode (mB m) pc = .ok (.i2b, 1)) : ev X m pc al (vI x :: st) mem = ev X m (pc + 1) al (vI (i2b32 x) :: st) mem := by
  refine (ev_go ((si_of hd).trans ?_)).trans rfl
  simp [stepJ, ck, go, p1]
theorem ke_i2l  (hd : decode (mB m) pc = .ok (.i2l, 1)) : ev X m pc al (vI x :: st) mem = ev X m (pc + 1) al (vL x :: st) mem := by
  refine (ev_go ((si_of hd).trans ?_)).trans rfl
  simp [stepJ, ck, go, p1]
theorem ke_ladd  (hd : decode (mB m) pc = .ok (.ladd, 1)) : ev X m pc al (vL y :: vL x :: st) mem = ev X m (pc + 1) al (vL (w64 (x + y)) :: st) mem := by
  refine (ev_go ((si_of hd).trans ?_)).trans rfl
  simp [stepJ, ck, go, pL, pL2]
theorem ke_lsub  (hd : decode (mB m) pc = .ok (.lsub, 1)) : ev X m pc al (vL y :: vL x :: st) mem = ev X m (pc + 1) al (vL (w64 (x - y)) :: st) mem := by
  refine (ev_go ((si_of hd).trans ?_)).trans rfl
  simp [stepJ, ck, go, pL, pL2]
theorem ke_lmul  (hd : decode (mB m) pc = .ok (.lmul, 1)) : ev X m pc al (vL y :: vL x :: st) mem = ev X m (pc + 1) al (vL (w64 (x * y)) :: st) mem := by
  refine (ev_go ((si_of hd).trans ?_)).trans rfl
  simp [stepJ, ck, go, pL, pL2]
theorem ke_lcmp  (hd : decode (mB m) pc = .ok (.lcmp, 1)) : ev X m pc al (vL y :: vL x :: st) mem = ev X m (pc + 1) al (vI (lcmp x y) :: st) mem := by
  refine (ev_go ((si_of hd).trans ?_)).trans rfl
  simp [stepJ, ck, go, pL, pL2]
theorem ke_idiv (hd : decode (mB m) pc = .ok (.idiv, 1)) : ev X m pc al (vI y :: vI x :: st) mem = if y = 0 then none else ev X m (pc + 1) al (vI (w32 (x.tdiv y)) :: st) mem := by
  by_cases hy : y = 0
  · rw [if_pos hy]
    refine ev_ext fun o => ?_
    rw [ev_iff]
    constructor
    · rintro ⟨f, hf⟩
      cases f with
      | zero => cases hf
      | succ f =>
        have hs : stepI X m pc al (vI y :: vI x :: st) mem = none := (si_of hd).trans (by simp [stepJ, ck, gI, hy, p1, p2])
        unfold run at hf
        rw [hs] at hf
        cases hf
    · intro q; cases q
  · rw [if_neg hy]
    refine (ev_go ((si_of hd).trans ?_)).trans rfl
    simp [stepJ, ck, go, gI, hy, p1, p2]
theorem ke_irem (hd : decode (mB m) pc = .ok (.irem, 1)) : ev X m pc al (vI y :: vI x :: st) mem = if y = 0 then none else ev X m (pc + 1) al (vI (w32 (x.tmod y)) :: st) mem := by
  by_cases hy : y = 0
  · rw [if_pos hy]
    refine ev_ext fun o => ?_
    rw [ev_iff]
    constructor
    · rintro ⟨f, hf⟩
      cases f with
      | zero => cases hf
      | succ f =>
        have hs : stepI X m pc al (vI y :: vI x :: st) mem = none := (si_of hd).trans (by simp [stepJ, ck, gI, hy, p1, p2])
        unfold run at hf
        rw [hs] at hf
        cases hf
    · intro q; cases q
  · rw [if_neg hy]
    refine (ev_go ((si_of hd).trans ?_)).trans rfl
    simp [stepJ, ck, go, gI, hy, p1, p2]
theorem ke_ldiv (hd : decode (mB m) pc = .ok (.ldiv, 1)) : ev X m pc al (vL y :: vL x :: st) mem = if y = 0 then none else ev X m (pc + 1) al (vL (w64 (x.tdiv y)) :: st) mem := by
  by_cases hy : y = 0
  · rw [if_pos hy]
    refine ev_ext fun o => ?_
    rw [ev_iff]
    constructor
    · rintro ⟨f, hf⟩
      cases f with
      | zero => cases hf
      | succ f =>
        have hs : stepI X m pc al (vL y :: vL x :: st) mem = none := (si_of hd).trans (by simp [stepJ, ck, gI, hy, pL, pL2])
        unfold run at hf
        rw [hs] at hf
        cases hf
    · intro q; cases q
  · rw [if_neg hy]
    refine (ev_go ((si_of hd).trans ?_)).trans rfl
    simp [stepJ, ck, go, gI, hy, pL, pL2]
theorem ke_lrem (hd : decode (mB m) pc = .ok (.lrem, 1)) : ev X m pc al (vL y :: vL x :: st) mem = if y = 0 then none else ev X m (pc + 1) al (vL (w64 (x.tmod y)) :: st) mem := by
  by_cases hy : y = 0
  · rw [if_pos hy]
    refine ev_ext fun o => ?_
    rw [ev_iff]
    constructor
    · rintro ⟨f, hf⟩
      cases f with
      | zero => cases hf
      | succ f =>
        have hs : stepI X m pc al (vL y :: vL x :: st) mem = none := (si_of hd).trans (by simp [stepJ, ck, gI, hy, pL, pL2])
        unfold run at hf
        rw [hs] at hf
        cases hf
    · intro q; cases q
  · rw [if_neg hy]
    refine (ev_go ((si_of hd).trans ?_)).trans rfl
    simp [stepJ, ck, go, gI, hy, pL, pL2]
theorem ke_dupI  (hd : decode (mB m) pc = .ok (.dup, 1)) : ev X m pc al (vI x :: st) mem = ev X m (pc + 1) al (vI x :: vI x :: st) mem := by
  refine (ev_go ((si_of hd).trans ?_)).trans rfl
  simp [stepJ, ck, go, c1]
theorem ke_dupR  (hd : decode (mB m) pc = .ok (.dup, 1)) : ev X m pc al (vR a :: st) mem = ev X m (pc + 1) al (vR a :: vR a :: st) mem := by
  refine (ev_go ((si_of hd).trans ?_)).trans rfl
  simp [stepJ, ck, go, c1]
theorem ke_dup2  (hd : decode (mB m) pc = .ok (.dup2, 1)) : ev X m pc al (vI x :: vR a :: st) mem = ev X m (pc + 1) al (vI x :: vR a :: vI x :: vR a :: st) mem := by
  refine (ev_go ((si_of hd).trans ?_)).trans rfl
  simp [stepJ, ck, go, c1]
theorem ke_popI  (hd : decode (mB m) pc = .ok (.pop, 1)) : ev X m pc al (vI x :: st) mem = ev X m (pc + 1) al st mem := by
  refine (ev_go ((si_of hd).trans ?_)).trans rfl
  simp [stepJ, ck, go, c1]
theorem ke_popR  (hd : decode (mB m) pc = .ok (.pop, 1)) : ev X m pc al (vR a :: st) mem = ev X m (pc + 1) al st mem := by
  refine (ev_go ((si_of hd).trans ?_)).trans rfl
  simp [stepJ, ck, go, c1]
theorem ke_iaload  (hd : decode (mB m) pc = .ok (.iaload, 1)) : ev X m pc al (vI x :: vR a :: st) mem = evb X (aget mem a x) m (pc + 1) al st mem := by
  cases ho : aget mem a x with
  | none =>
    refine ev_ext fun o => ?_
    rw [ev_iff]
    constructor
    · rintro ⟨f, hf⟩
      cases f with
      | zero => cases hf
      | succ f =>
        have hs : stepI X m pc al (vI x :: vR a :: st) mem = none := (si_of hd).trans (by simp [stepJ, ck, p1, pR, ho])
        unfold run at hf
        rw [hs] at hf
        cases hf
    · intro q; cases q
  | some z =>
    refine (ev_go ((si_of hd).trans ?_)).trans rfl
    simp [stepJ, ck, go, p1, pR, ho]
theorem ke_saload  (hd : decode (mB m) pc = .ok (.iaload, 1)) : ev X m pc al (vI x :: vX 0 :: st) mem = evb X (sget X x) m (pc + 1) al st mem := by
  cases ho : sget X x with
  | none =>
    refine ev_ext fun o => ?_
    rw [ev_iff]
    constructor
    · rintro ⟨f, hf⟩
      cases f with
      | zero => cases hf
      | succ f =>
        have hs : stepI X m pc al (vI x :: vX 0 :: st) mem = none := (si_of hd).trans (by simp [stepJ, ck, p1, pR, gI, ho])
        unfold run at hf
        rw [hs] at hf
        cases hf
    · intro q; cases q
  | some z =>
    refine (ev_go ((si_of hd).trans ?_)).trans rfl
    simp [stepJ, ck, go, p1, pR, gI, ho]
theorem ke_baload  (hd : decode (mB m) pc = .ok (.baload, 1)) : ev X m pc al (vI x :: vX j :: st) mem = evb X (xget j x) m (pc + 1) al st mem := by
  cases ho : xget j x with
  | none =>
    refine ev_ext fun o => ?_
    rw [ev_iff]
    constructor
    · rintro ⟨f, hf⟩
      cases f with
      | zero => cases hf
      | succ f =>
        have hs : stepI X m pc al (vI x :: vX j :: st) mem = none := (si_of hd).trans (by simp [stepJ, ck, p1, pR, ho])
        unfold run at hf
        rw [hs] at hf
        cases hf
    · intro q; cases q
  | some z =>
    refine (ev_go ((si_of hd).trans ?_)).trans rfl
    simp [stepJ, ck, go, p1, pR, ho]
theorem ke_alen  (hd : decode (mB m) pc = .ok (.arraylength, 1)) : ev X m pc al (vR a :: st) mem = evb X (alen mem a) m (pc + 1) al st mem := by
  cases ho : alen mem a with
  | none =>
    refine ev_ext fun o => ?_
    rw [ev_iff]
    constructor
    · rintro ⟨f, hf⟩
      cases f with
      | zero => cases hf
      | succ f =>
        have hs : stepI X m pc al (vR a :: st) mem = none := (si_of hd).trans (by simp [stepJ, ck, pR, ho])
        unfold run at hf
        rw [hs] at hf
        cases hf
    · intro q; cases q
  | some z =>
    refine (ev_go ((si_of hd).trans ?_)).trans rfl
    simp [stepJ, ck, go, pR, ho]
theorem ke_xlen  (hd : decode (mB m) pc = .ok (.arraylength, 1)) : ev X m pc al (vX j :: st) mem = evb X (xlen X j) m (pc + 1) al st mem := by
  cases ho : xlen X j with
  | none =>
    refine ev_ext fun o => ?_
    rw [ev_iff]
    constructor
    · rintro ⟨f, hf⟩
      cases f with
      | zero => cases hf
      | succ f =>
        have hs : stepI X m pc al (vX j :: st) mem = none := (si_of hd).trans (by simp [stepJ, ck, pR, ho])
        unfold run at hf
        rw [hs] at hf
        cases hf
    · intro q; cases q
  | some z =>
    refine (ev_go ((si_of hd).trans ?_)).trans rfl
    simp [stepJ, ck, go, pR, ho]
theorem ke_iastore  (hd : decode (mB m) pc = .ok (.iastore, 1)) : ev X m pc al (vI y :: vI x :: vR a :: st) mem = evm X (aput mem a x y) m (pc + 1) al st := by
  cases ho : aput mem a x y with
  | none =>
    refine ev_ext fun o => ?_
    rw [ev_iff]
    constructor
    · rintro ⟨f, hf⟩
      cases f with
      | zero => cases hf
      | succ f =>
        have hs : stepI X m pc al (vI y :: vI x :: vR a :: st) mem = none := (si_of hd).trans (by simp [stepJ, ck, p1, p2, pR, ho])
        unfold run at hf
        rw [hs] at hf
        cases hf
    · intro q; cases q
  | some z =>
    refine (ev_go ((si_of hd).trans ?_)).trans rfl
    simp [stepJ, ck, go, p1, p2, pR, ho]
theorem ke_getf {c kf : Nat} (hq : fld (mK m) k = some (c, kf)) (hd : decode (mB m) pc = .ok (.getfield k, 3)) : ev X m pc al (vR a :: st) mem = evb X (fget mem a c kf) m (pc + 3) al st mem := by
  cases ho : fget mem a c kf with
  | none =>
    refine ev_ext fun o => ?_
    rw [ev_iff]
    constructor
    · rintro ⟨f, hf⟩
      cases f with
      | zero => cases hf
      | succ f =>
        have hs : stepI X m pc al (vR a :: st) mem = none := (si_of hd).trans (by simp [stepJ, ck, pR, hq, ho])
        unfold run at hf
        rw [hs] at hf
        cases hf
    · intro q; cases q
  | some z =>
    refine (ev_go ((si_of hd).trans ?_)).trans rfl
    simp [stepJ, ck, go, pR, hq, ho]
theorem ke_getX  (hd : decode (mB m) pc = .ok (.getfield k, 3)) : ev X m pc al (vX j :: st) mem = evb X (xfld (mK m) k j) m (pc + 3) al st mem := by
  cases ho : xfld (mK m) k j with
  | none =>
    refine ev_ext fun o => ?_
    rw [ev_iff]
    constructor
    · rintro ⟨f, hf⟩
      cases f with
      | zero => cases hf
      | succ f =>
        have hs : stepI X m pc al (vX j :: st) mem = none := (si_of hd).trans (by simp [stepJ, ck, pR, ho])
        unfold run at hf
        rw [hs] at hf
        cases hf
    · intro q; cases q
  | some z =>
    refine (ev_go ((si_of hd).trans ?_)).trans rfl
    simp [stepJ, ck, go, pR, ho]
theorem ke_putf {c kf : Nat} (hq : fld (mK m) k = some (c, kf)) (ht : fty c kf = 1) (hd : decode (mB m) pc = .ok (.putfield k, 3)) : ev X m pc al (vI x :: vR a :: st) mem = evm X (fput mem a c kf (vI x)) m (pc + 3) al st := by
  cases ho : fput mem a c kf (vI x) with
  | none =>
    refine ev_ext fun o => ?_
    rw [ev_iff]
    constructor
    · rintro ⟨f, hf⟩
      cases f with
      | zero => cases hf
      | succ f =>
        have hs : stepI X m pc al (vI x :: vR a :: st) mem = none := (si_of hd).trans (by simp [stepJ, ck, p1, pR, hq, ht, gI, fok, ho])
        unfold run at hf
        rw [hs] at hf
        cases hf
    · intro q; cases q
  | some z =>
    refine (ev_go ((si_of hd).trans ?_)).trans rfl
    simp [stepJ, ck, go, p1, pR, hq, ht, gI, fok, ho]
theorem ke_putz {c kf : Nat} (hq : fld (mK m) k = some (c, kf)) (ht : fty c kf = 2) (hx : x = 0 ∨ x = 1) (hd : decode (mB m) pc = .ok (.putfield k, 3)) : ev X m pc al (vI x :: vR a :: st) mem = evm X (fput mem a c kf (vI x)) m (pc + 3) al st := by
  cases ho : fput mem a c kf (vI x) with
  | none =>
    refine ev_ext fun o => ?_
    rw [ev_iff]
    constructor
    · rintro ⟨f, hf⟩
      cases f with
      | zero => cases hf
      | succ f =>
        have hs : stepI X m pc al (vI x :: vR a :: st) mem = none := (si_of hd).trans (by simp [stepJ, ck, p1, pR, hq, ht, gI, fok, hx, ho])
        unfold run at hf
        rw [hs] at hf
        cases hf
    · intro q; cases q
  | some z =>
    refine (ev_go ((si_of hd).trans ?_)).trans rfl
    simp [stepJ, ck, go, p1, pR, hq, ht, gI, fok, hx, ho]
theorem ke_gets (hq : xst (mK m) k = some v) (hd : decode (mB m) pc = .ok (.getstatic k, 3)) : ev X m pc al st mem = ev X m (pc + 3) al (v :: st) mem := by
  refine (ev_go ((si_of hd).trans ?_)).trans rfl
  simp [stepJ, ck, go, hq]
theorem ke_goto  (hd : decode (mB m) pc = .ok (.goto off, 3)) (ht : (pc : Int) + off = (t : Int)) : ev X m pc al st mem = ev X m t al st mem := by
  refine (ev_go ((si_of hd).trans ?_)).trans rfl
  simp [stepJ, ck, go, jm, ht]
theorem ke_ifnonnull  (hd : decode (mB m) pc = .ok (.ifnonnull off, 3)) (ht : (pc : Int) + off = (t : Int)) : ev X m pc al (vR a :: st) mem = ev X m t al st mem := by
  refine (ev_go ((si_of hd).trans ?_)).trans rfl
  simp [stepJ, ck, go, jm, ht, pR]
theorem ke_icmp_eq (hd : decode (mB m) pc = .ok (.if_icmp .eq off, 3)) (ht : (pc : Int) + off = (t : Int)) : ev X m pc al (vI y :: vI x :: st) mem = if x = y then ev X m t al st mem else ev X m (pc + 3) al st mem := by
  by_cases hc : x = y
  · rw [if_pos hc]
    refine (ev_go ((si_of hd).trans ?_)).trans rfl
    simp [stepJ, ck, go, jm, ht, p1, p2, br, cI, hc]
  · rw [if_neg hc]
    refine (ev_go ((si_of hd).trans ?_)).trans rfl
    simp [stepJ, ck, go, jm, ht, p1, p2, br, cI, hc]
theorem ke_if_eq (hd : decode (mB m) pc = .ok (.ifCond .eq off, 3)) (ht : (pc : Int) + off = (t : Int)) : ev X m pc al (vI x :: st) mem = if x = 0 then ev X m t al st mem else ev X m (pc + 3) al st mem := by
  by_cases hc : x = 0
  · rw [if_pos hc]
    refine (ev_go ((si_of hd).trans ?_)).trans rfl
    simp [stepJ, ck, go, jm, ht, p1, p2, br, cI, hc]
  · rw [if_neg hc]
    refine (ev_go ((si_of hd).trans ?_)).trans rfl
    simp [stepJ, ck, go, jm, ht, p1, p2, br, cI, hc]
theorem ke_icmp_ne (hd : decode (mB m) pc = .ok (.if_icmp .ne off, 3)) (ht : (pc : Int) + off = (t : Int)) : ev X m pc al (vI y :: vI x :: st) mem = if x = y then ev X m (pc + 3) al st mem else ev X m t al st mem := by
  by_cases hc : x = y
  · rw [if_pos hc]
    refine (ev_go ((si_of hd).trans ?_)).trans rfl
    simp [stepJ, ck, go, jm, ht, p1, p2, br, cI, hc]
  · rw [if_neg hc]
    refine (ev_go ((si_of hd).trans ?_)).trans rfl
    simp [stepJ, ck, go, jm, ht, p1, p2, br, cI, hc]
theorem ke_if_ne (hd : decode (mB m) pc = .ok (.ifCond .ne off, 3)) (ht : (pc : Int) + off = (t : Int)) : ev X m pc al (vI x :: st) mem = if x = 0 then ev X m (pc + 3) al st mem else ev X m t al st mem := by
  by_cases hc : x = 0
  · rw [if_pos hc]
    refine (ev_go ((si_of hd).trans ?_)).trans rfl
    simp [stepJ, ck, go, jm, ht, p1, p2, br, cI, hc]
  · rw [if_neg hc]
    refine (ev_go ((si_of hd).trans ?_)).trans rfl
    simp [stepJ, ck, go, jm, ht, p1, p2, br, cI, hc]
theorem ke_icmp_lt (hd : decode (mB m) pc = .ok (.if_icmp .lt off, 3)) (ht : (pc : Int) + off = (t : Int)) : ev X m pc al (vI y :: vI x :: st) mem = if x < y then ev X m t al st mem else ev X m (pc + 3) al st mem := by
  by_cases hc : x < y
  · rw [if_pos hc]
    refine (ev_go ((si_of hd).trans ?_)).trans rfl
    simp [stepJ, ck, go, jm, ht, p1, p2, br, cI, hc]
  · rw [if_neg hc]
    refine (ev_go ((si_of hd).trans ?_)).trans rfl
    simp [stepJ, ck, go, jm, ht, p1, p2, br, cI, hc]
theorem ke_if_lt (hd : decode (mB m) pc = .ok (.ifCond .lt off, 3)) (ht : (pc : Int) + off = (t : Int)) : ev X m pc al (vI x :: st) mem = if x < 0 then ev X m t al st mem else ev X m (pc + 3) al st mem := by
  by_cases hc : x < 0
  · rw [if_pos hc]
    refine (ev_go ((si_of hd).trans ?_)).trans rfl
    simp [stepJ, ck, go, jm, ht, p1, p2, br, cI, hc]
  · rw [if_neg hc]
    refine (ev_go ((si_of hd).trans ?_)).trans rfl
    simp [stepJ, ck, go, jm, ht, p1, p2, br, cI, hc]
theorem ke_icmp_ge (hd : decode (mB m) pc = .ok (.if_icmp .ge off, 3)) (ht : (pc : Int) + off = (t : Int)) : ev X m pc al (vI y :: vI x :: st) mem = if x < y then ev X m (pc + 3) al st mem else ev X m t al st mem := by
  by_cases hc : x < y
  · rw [if_pos hc]
    refine (ev_go ((si_of hd).trans ?_)).trans rfl
    simp [stepJ, ck, go, jm, ht, p1, p2, br, cI, hc]
  · rw [if_neg hc]
    refine (ev_go ((si_of hd).trans ?_)).trans rfl
    simp [stepJ, ck, go, jm, ht, p1, p2, br, cI, hc]
theorem ke_if_ge (hd : decode (mB m) pc = .ok (.ifCond .ge off, 3)) (ht : (pc : Int) + off = (t : Int)) : ev X m pc al (vI x :: st) mem = if x < 0 then ev X m (pc + 3) al st mem else ev X m t al st mem := by
  by_cases hc : x < 0
  · rw [if_pos hc]
    refine (ev_go ((si_of hd).trans ?_)).trans rfl
    simp [stepJ, ck, go, jm, ht, p1, p2, br, cI, hc]
  · rw [if_neg hc]
    refine (ev_go ((si_of hd).trans ?_)).trans rfl
    simp [stepJ, ck, go, jm, ht, p1, p2, br, cI, hc]
theorem ke_icmp_gt (hd : decode (mB m) pc = .ok (.if_icmp .gt off, 3)) (ht : (pc : Int) + off = (t : Int)) : ev X m pc al (vI y :: vI x :: st) mem = if y < x then ev X m t al st mem else ev X m (pc + 3) al st mem := by
  by_cases hc : y < x
  · rw [if_pos hc]
    refine (ev_go ((si_of hd).trans ?_)).trans rfl
    simp [stepJ, ck, go, jm, ht, p1, p2, br, cI, hc]
  · rw [if_neg hc]
    refine (ev_go ((si_of hd).trans ?_)).trans rfl
    simp [stepJ, ck, go, jm, ht, p1, p2, br, cI, hc]
theorem ke_if_gt (hd : decode (mB m) pc = .ok (.ifCond .gt off, 3)) (ht : (pc : Int) + off = (t : Int)) : ev X m pc al (vI x :: st) mem = if 0 < x then ev X m t al st mem else ev X m (pc + 3) al st mem := by
  by_cases hc : 0 < x
  · rw [if_pos hc]
    refine (ev_go ((si_of hd).trans ?_)).trans rfl
    simp [stepJ, ck, go, jm, ht, p1, p2, br, cI, hc]
  · rw [if_neg hc]
    refine (ev_go ((si_of hd).trans ?_)).trans rfl
    simp [stepJ, ck, go, jm, ht, p1, p2, br, cI, hc]
theorem ke_icmp_le (hd : decode (mB m) pc = .ok (.if_icmp .le off, 3)) (ht : (pc : Int) + off = (t : Int)) : ev X m pc al (vI y :: vI x :: st) mem = if y < x then ev X m (pc + 3) al st mem else ev X m t al st mem := by
  by_cases hc : y < x
  · rw [if_pos hc]
    refine (ev_go ((si_of hd).trans ?_)).trans rfl
    simp [stepJ, ck, go, jm, ht, p1, p2, br, cI, hc]
  · rw [if_neg hc]
    refine (ev_go ((si_of hd).trans ?_)).trans rfl
    simp [stepJ, ck, go, jm, ht, p1, p2, br, cI, hc]
theorem ke_if_le (hd : decode (mB m) pc = .ok (.ifCond .le off, 3)) (ht : (pc : Int) + off = (t : Int)) : ev X m pc al (vI x :: st) mem = if 0 < x then ev X m (pc + 3) al st mem else ev X m t al st mem := by
  by_cases hc : 0 < x
  · rw [if_pos hc]
    refine (ev_go ((si_of hd).trans ?_)).trans rfl
    simp [stepJ, ck, go, jm, ht, p1, p2, br, cI, hc]
  · rw [if_neg hc]
    refine (ev_go ((si_of hd).trans ?_)).trans rfl
    simp [stepJ, ck, go, jm, ht, p1, p2, br, cI, hc]
theorem ke_swT {d lo hi : Int} {offs : Array Int} (hd : decode (mB m) pc = .ok (.tableswitch d lo hi offs, len)) (h1 : ¬ x < lo) (h2 : ¬ hi < x) (ho : offs[(x - lo).toNat]? = some off) (ht : (pc : Int) + off = (t : Int)) : ev X m pc al (vI x :: st) mem = ev X m t al st mem := by
  refine (ev_go ((si_of hd).trans ?_)).trans rfl
  simp [stepJ, p1, swT, go, jm, ht, h1, h2, ho]
theorem ke_swD {d lo hi : Int} {offs : Array Int} (hd : decode (mB m) pc = .ok (.tableswitch d lo hi offs, len)) (h : x < lo ∨ hi < x) (ht : (pc : Int) + d = (t : Int)) : ev X m pc al (vI x :: st) mem = ev X m t al st mem := by
  refine (ev_go ((si_of hd).trans ?_)).trans rfl
  simp [stepJ, p1, swT, go, jm, ht, h]
theorem ke_swL {d : Int} {ps : Array (Int × Int)} (hd : decode (mB m) pc = .ok (.lookupswitch d ps, len)) (hs : (ps.toList.zip (ps.toList.drop 1)).all (fun (a, next) => a.1 < next.1) = true) (ho : Op.lookupswitch.offset ps.toList d x = off) (ht : (pc : Int) + off = (t : Int)) : ev X m pc al (vI x :: st) mem = ev X m t al st mem := by
  refine (ev_go ((si_of hd).trans ?_)).trans rfl
  simp only [stepJ, p1, swL, gI, hs, ho]
  simp [jm, ht, go]
theorem ke_ireturn (hd : decode (mB m) pc = .ok (.ireturn, 1)) (hr : mRt m = some .int) : ev X m pc al [vI x] mem = some (some (vI x), mem) :=
  ev_ret ((si_of hd).trans (by simp [stepJ, ck, p1, gI, hr, rok]))
theorem ke_zreturn {ty : FieldType} (hd : decode (mB m) pc = .ok (.ireturn, 1)) (hr : mRt m = some ty) (hx : rok (some ty) x = true) : ev X m pc al [vI x] mem = some (some (vI x), mem) :=
  ev_ret ((si_of hd).trans (by simp [stepJ, ck, p1, gI, hr, hx]))
theorem ke_lreturn (hd : decode (mB m) pc = .ok (.lreturn, 1)) (hr : mRt m = some .long) : ev X m pc al [vL x] mem = some (some (vL x), mem) :=
  ev_ret ((si_of hd).trans (by simp [stepJ, ck, pL, gI, hr, rokL]))
theorem ke_areturn (hd : decode (mB m) pc = .ok (.areturn, 1)) (hr : rokA (mRt m) = true) : ev X m pc al [vR a] mem = some (some (vR a), mem) :=
  ev_ret ((si_of hd).trans (by simp [stepJ, ck, pR, gI, hr]))
theorem ke_xreturn (hd : decode (mB m) pc = .ok (.areturn, 1)) (hr : rokA (mRt m) = true) : ev X m pc al [vX j] mem = some (some (vX j), mem) :=
  ev_ret ((si_of hd).trans (by simp [stepJ, ck, pR, gI, hr]))
theorem ke_return (hd : decode (mB m) pc = .ok (.return_, 1)) (hr : mRt m = none) : ev X m pc al [] mem = some (none, mem) :=
  ev_ret ((si_of hd).trans (by simp [stepJ, ck, gI, hr, rokV]))
theorem ke_callV {as : List AV} {n : Nat} (hd : decode (mB m) pc = .ok (.invokevirtual k, 3)) (hm : mth (mK m) k = some (0, m')) (hr : rmk m m' = true) (hp : mP m' = n) (hst : st.take n = as.reverse) (hdr : st.drop n = vR a :: rest) (hn : as.length = n) (hf : (as.flatMap fl1).length + 1 ≤ mN m') (hrest : rest.length ≤ 4) (hk : mK m' < 6) (he : entL (mN m') (vR a :: as) = al') :
    ev X m pc al st mem = evc X (gR mem a (mK m') (ev X m' 0 al' [] mem)) m (pc + 3) al rest := by
  have e1 : st.take (mP m') = as.reverse := by rw [hp]; exact hst
  have e2 : st.drop (mP m') = vR a :: rest := by rw [hp]; exact hdr
  have e3 : stepI X m pc al st mem = gI (isO mem a (mK m')) (some (.inr (.inl (m', vR a :: as, rest)))) := by
    refine (si_of hd).trans ?_
    simp only [stepJ, hm, Option.bind_some, callVA, hp, hst, hdr, List.reverse_reverse, List.length_reverse, hn, hr, pR, ck, gI, hf, hrest, hk, decide_true, Bool.and_true, Bool.true_and, if_true, ite_true, and_self]
  by_cases ho : isO mem a (mK m') = true
  · rw [ho] at e3
    rw [ev_call e3, he, gR, if_pos ho]
  · have e4 : stepI X m pc al st mem = none := by rw [e3]; simp [gI, ho]
    rw [gR, if_neg ho]
    refine ev_ext fun o => ?_
    rw [ev_iff]
    constructor
    · rintro ⟨f, hf⟩
      cases f with
      | zero => cases hf
      | succ f =>
        unfold run at hf
        rw [e4] at hf
        cases hf
    · intro q; cases q
theorem ke_callX {as : List AV} {n : Nat} (hd : decode (mB m) pc = .ok (.invokevirtual k, 3)) (hm : mth (mK m) k = some (0, m')) (hr : rmk m m' = true) (hp : mP m' = n) (hst : st.take n = as.reverse) (hdr : st.drop n = vX j :: rest) (hn : as.length = n) (hf : (as.flatMap fl1).length + 1 ≤ mN m') (hrest : rest.length ≤ 4) (hk : mK m' = 7) (he : entL (mN m') (vX j :: as) = al') :
    ev X m pc al st mem = evc X (gX j (ev X m' 0 al' [] mem)) m (pc + 3) al rest := by
  have e1 : st.take (mP m') = as.reverse := by rw [hp]; exact hst
  have e2 : st.drop (mP m') = vX j :: rest := by rw [hp]; exact hdr
  have e3 : stepI X m pc al st mem = gI (decide (1 ≤ j ∧ j ≤ 8)) (some (.inr (.inl (m', vX j :: as, rest)))) := by
    refine (si_of hd).trans ?_
    simp only [stepJ, hm, Option.bind_some, callVA, hp, hst, hdr, List.reverse_reverse, List.length_reverse, hn, hr, pR, ck, gI, hf, hrest, hk, decide_true, Bool.and_true, Bool.true_and, if_true, ite_true, and_self]
  by_cases ho : 1 ≤ j ∧ j ≤ 8
  · have e4 : stepI X m pc al st mem = some (.inr (.inl (m', vX j :: as, rest))) := by rw [e3]; simp [gI, ho]
    rw [ev_call e4, he, gX, if_pos ho]
  · have e4 : stepI X m pc al st mem = none := by rw [e3]; simp [gI]; omega
    rw [gX, if_neg ho]
    refine ev_ext fun o => ?_
    rw [ev_iff]
    constructor
    · rintro ⟨f, hf⟩
      cases f with
      | zero => cases hf
      | succ f =>
        unfold run at hf
        rw [e4] at hf
        cases hf
    · intro q; cases q
theorem ke_callS {as : List AV} {n kd : Nat} (hd : decode (mB m) pc = .ok (.invokestatic k, 3)) (hm : mth (mK m) k = some (kd, m')) (hkd : kd = 1 ∨ kd = 2) (hr : rmk m m' = true) (hp : mP m' = n) (hst : st.take n = as.reverse) (hdr : st.drop n = rest) (hn : as.length = n) (hf : (as.flatMap fl1).length ≤ mN m') (hrest : rest.length ≤ 4) (he : entL (mN m') as = al') :
    ev X m pc al st mem = evc X (ev X m' 0 al' [] mem) m (pc + 3) al rest := by
  have e1 : st.take (mP m') = as.reverse := by rw [hp]; exact hst
  have e2 : st.drop (mP m') = rest := by rw [hp]; exact hdr
  have e3 : stepI X m pc al st mem = some (.inr (.inl (m', as, rest))) := by
    refine (si_of hd).trans ?_
    simp only [stepJ, hm, Option.bind_some, callSA, hp, hst, hdr, List.reverse_reverse, List.length_reverse, hn, hr, pR, ck, gI, hf, hrest, hkd, decide_true, Bool.and_true, Bool.true_and, if_true, ite_true, and_self]
  rw [ev_call e3, he]

theorem ke_copy {b : Nat} {sp dp : Int} (hm : mth (mK m) k = none) (hac : isAC (mK m) k = true) (h1 : rest.length ≤ 4) (h2 : 1 ≤ mF m) (h3 : 26 ≤ mW m) (hd : decode (mB m) pc = .ok (.invokestatic k, 3)) : ev X m pc al (vI n :: vI dp :: vR b :: vI sp :: vR a :: rest) mem = evm X (acpy mem a sp b dp n) m (pc + 3) al rest := by
  cases ho : acpy mem a sp b dp n with
  | none =>
    refine ev_ext fun o => ?_
    rw [ev_iff]
    constructor
    · rintro ⟨f, hf⟩
      cases f with
      | zero => cases hf
      | succ f =>
        have hs : stepI X m pc al (vI n :: vI dp :: vR b :: vI sp :: vR a :: rest) mem = none := (si_of hd).trans (by simp [stepJ, ck, p1, p2, pR, gI, hm, hac, h1, h2, h3, copyA, ho])
        unfold run at hf
        rw [hs] at hf
        cases hf
    · intro q; cases q
  | some z =>
    refine (ev_go ((si_of hd).trans ?_)).trans rfl
    simp [stepJ, ck, go, p1, p2, pR, gI, hm, hac, h1, h2, h3, copyA, ho]
theorem ke_mmax (hm : mth (mK m) k = none) (hac : isAC (mK m) k = false) (hq : mthM (mK m) k = some 0) (h1 : rest.length ≤ 4) (h2 : 1 ≤ mF m) (h3 : 21 ≤ mW m) (hd : decode (mB m) pc = .ok (.invokestatic k, 3)) : ev X m pc al (vI y :: vI x :: rest) mem = ev X m (pc + 3) al (vI (if x < y then y else x) :: rest) mem := by
  refine (ev_go ((si_of hd).trans ?_)).trans rfl
  simp [stepJ, ck, go, mathA, p1, p2, gI, hm, hac, hq, h1, h2, h3]
theorem ke_mmin (hm : mth (mK m) k = none) (hac : isAC (mK m) k = false) (hq : mthM (mK m) k = some 1) (h1 : rest.length ≤ 4) (h2 : 1 ≤ mF m) (h3 : 21 ≤ mW m) (hd : decode (mB m) pc = .ok (.invokestatic k, 3)) : ev X m pc al (vI y :: vI x :: rest) mem = ev X m (pc + 3) al (vI (if y < x then y else x) :: rest) mem := by
  refine (ev_go ((si_of hd).trans ?_)).trans rfl
  simp [stepJ, ck, go, mathA, p1, p2, gI, hm, hac, hq, h1, h2, h3]
theorem ke_mabs (hm : mth (mK m) k = none) (hac : isAC (mK m) k = false) (hq : mthM (mK m) k = some 2) (h1 : rest.length ≤ 4) (h2 : 1 ≤ mF m) (h3 : 21 ≤ mW m) (hd : decode (mB m) pc = .ok (.invokestatic k, 3)) : ev X m pc al (vI x :: rest) mem = ev X m (pc + 3) al (vI (w32 (if 0 ≤ x then x else 0 - x)) :: rest) mem := by
  refine (ev_go ((si_of hd).trans ?_)).trans rfl
  simp [stepJ, ck, go, mathA, p1, p2, gI, hm, hac, hq, h1, h2, h3]
end KE
