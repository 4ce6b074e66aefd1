/-! ===== AN INTERPRETER of the bytecode of the methods that make nothing and throw nothing. Its world is a list of cells; a reference is a place in that list. ===== -/
abbrev ez_C : Type := (Nat × (Nat → Int32)) ⊕ (Nat × List Value)
abbrev ez_W : Type := List ez_C
abbrev ez_L : Type := List (Option Value)
abbrev ez_K : Type := Nat × ez_L × List Value × ez_W
abbrev ez_M : Type := Nat × MethodName × ByteArray × Nat × Option FieldType × Nat × Nat × Nat
def ez_lk {α : Type} : List (Nat × α) → Nat → Option α
  | [], _ => none
  | q :: t, k => bif Nat.beq q.1 k then some q.2 else ez_lk t k
def ez_at {α : Type} (t : List (List (Nat × α))) (o k : Nat) : Option α := match t[o]? with
  | some r => ez_lk r k
  | none => none
def ez_i (mi pc : Nat) : Option (Instr × Nat) := ez_at ez_tb mi pc
def ez_li (L : ez_L) (k : Nat) : Option Int32 := match L[k]? with
  | some (some (.int x)) => some x
  | _ => none
def ez_ll (L : ez_L) (k : Nat) : Option Int64 := match L[k]? with
  | some (some (.long x)) => some x
  | _ => none
def ez_la (L : ez_L) (k : Nat) : Option Nat := match L[k]? with
  | some (some (.ref x)) => some x
  | _ => none
def ez_clr (L : ez_L) : Nat → ez_L
  | 0 => L
  | k + 1 => match L[k]? with
    | some (some (.long _)) => L.set k none
    | some (some (.double _)) => L.set k none
    | _ => L
def ez_s1 (L : ez_L) (k : Nat) (v : Value) : Option ez_L := bif Nat.blt k L.length then some ((ez_clr L k).set k (some v)) else none
def ez_s2 (L : ez_L) (k : Nat) (v : Value) : Option ez_L := bif Nat.blt (k + 1) L.length then some (((ez_clr L k).set k (some v)).set (k + 1) none) else none
def ez_br (pc : Nat) (off : Int) : Option Nat := match (pc : Int) + off with
  | .ofNat t => some t
  | .negSucc _ => none
def ez_cd (c : Jvm.ClassFile.Cond) (x y : Int32) : Bool := match c with
  | .eq => decide (x = y)
  | .ne => decide (¬ x = y)
  | .lt => decide (x < y)
  | .ge => decide (y ≤ x)
  | .gt => decide (y < x)
  | .le => decide (x ≤ y)
def ez_ft (kd : Nat) (v : Value) : Bool := match kd, v with
  | 0, .int _ => true
  | 1, .long _ => true
  | 2, .int x => x == 0 || x == 1
  | _, _ => false
/-- the length of the instructions that are known here; 0: any -/
def ez_n : Instr → Nat
  | .bipush _ | .ldc _ | .iload _ | .lload _ | .aload _ | .istore _ | .lstore _ => 2
  | .sipush _ | .ldc2_w _ | .iinc _ _ | .if_icmp _ _ | .ifCond _ _ | .goto _ | .getfield _ | .putfield _ | .invokevirtual _ | .invokestatic _ => 3
  | .tableswitch .. | .lookupswitch .. => 0
  | _ => 1
def ez_ok (i : Instr) (len : Nat) : Bool := bif Nat.beq (ez_n i) 0 then true else Nat.beq len (ez_n i)
/-- one step within a method: no call, no return -/
def ez_s (o : Nat) (i : Instr) (pc : Nat) (L : ez_L) (st : List Value) (w : ez_W) : Option ez_K := match i with
  | .iconst n => some (pc + 1, L, .int (Int32.ofInt n) :: st, w)
  | .bipush n => some (pc + 2, L, .int (Int8.ofInt n).toInt32 :: st, w)
  | .sipush n => some (pc + 3, L, .int (Int16.ofInt n).toInt32 :: st, w)
  | .lconst n => some (pc + 1, L, .long (Int64.ofNat n) :: st, w)
  | .ldc k => match ez_at ez_kk o k with
    | some v => some (pc + 2, L, .int v :: st, w)
    | none => none
  | .ldc2_w k => match ez_at ez_kl o k with
    | some v => some (pc + 3, L, .long v :: st, w)
    | none => none
  | .iload_n k => match ez_li L k with
    | some x => some (pc + 1, L, .int x :: st, w)
    | none => none
  | .iload k => match ez_li L k with
    | some x => some (pc + 2, L, .int x :: st, w)
    | none => none
  | .lload_n k => match ez_ll L k with
    | some x => some (pc + 1, L, .long x :: st, w)
    | none => none
  | .lload k => match ez_ll L k with
    | some x => some (pc + 2, L, .long x :: st, w)
    | none => none
  | .aload_n k => match ez_la L k with
    | some x => some (pc + 1, L, .ref x :: st, w)
    | none => none
  | .aload k => match ez_la L k with
    | some x => some (pc + 2, L, .ref x :: st, w)
    | none => none
  | .istore_n k => match st with
    | .int x :: st => match ez_s1 L k (.int x) with
      | some L => some (pc + 1, L, st, w)
      | none => none
    | _ => none
  | .istore k => match st with
    | .int x :: st => match ez_s1 L k (.int x) with
      | some L => some (pc + 2, L, st, w)
      | none => none
    | _ => none
  | .lstore_n k => match st with
    | .long x :: st => match ez_s2 L k (.long x) with
      | some L => some (pc + 1, L, st, w)
      | none => none
    | _ => none
  | .lstore k => match st with
    | .long x :: st => match ez_s2 L k (.long x) with
      | some L => some (pc + 2, L, st, w)
      | none => none
    | _ => none
  | .iinc k n => match ez_li L k with
    | some x => match ez_s1 L k (.int (x + Int32.ofInt n)) with
      | some L => some (pc + 3, L, st, w)
      | none => none
    | none => none
  | .iadd => match st with
    | .int y :: .int x :: st => some (pc + 1, L, .int (x + y) :: st, w)
    | _ => none
  | .isub => match st with
    | .int y :: .int x :: st => some (pc + 1, L, .int (x - y) :: st, w)
    | _ => none
  | .imul => match st with
    | .int y :: .int x :: st => some (pc + 1, L, .int (x * y) :: st, w)
    | _ => none
  | .iand => match st with
    | .int y :: .int x :: st => some (pc + 1, L, .int (x &&& y) :: st, w)
    | _ => none
  | .ishr => match st with
    | .int y :: .int x :: st => some (pc + 1, L, .int (x >>> (y &&& 31)) :: st, w)
    | _ => none
  | .idiv => match st with
    | .int y :: .int x :: st => if y = 0 then none else some (pc + 1, L, .int (x / y) :: st, w)
    | _ => none
  | .ladd => match st with
    | .long y :: .long x :: st => some (pc + 1, L, .long (x + y) :: st, w)
    | _ => none
  | .lsub => match st with
    | .long y :: .long x :: st => some (pc + 1, L, .long (x - y) :: st, w)
    | _ => none
  | .lmul => match st with
    | .long y :: .long x :: st => some (pc + 1, L, .long (x * y) :: st, w)
    | _ => none
  | .land => match st with
    | .long y :: .long x :: st => some (pc + 1, L, .long (x &&& y) :: st, w)
    | _ => none
  | .lrem => match st with
    | .long y :: .long x :: st => if y = 0 then none else some (pc + 1, L, .long (x - x / y * y) :: st, w)
    | _ => none
  | .lneg => match st with
    | .long x :: st => some (pc + 1, L, .long (-x) :: st, w)
    | _ => none
  | .lushr => match st with
    | .int y :: .long x :: st => some (pc + 1, L, .long (x.toUInt64 >>> (y.toInt64.toUInt64 &&& Int64.toUInt64 63)).toInt64 :: st, w)
    | _ => none
  | .lcmp => match st with
    | .long y :: .long x :: st => some (pc + 1, L, .int (lg_cmp x y) :: st, w)
    | _ => none
  | .i2l => match st with
    | .int x :: st => some (pc + 1, L, .long x.toInt64 :: st, w)
    | _ => none
  | .l2i => match st with
    | .long x :: st => some (pc + 1, L, .int x.toInt32 :: st, w)
    | _ => none
  | .dup => match st with
    | .int x :: st => some (pc + 1, L, .int x :: .int x :: st, w)
    | .ref x :: st => some (pc + 1, L, .ref x :: .ref x :: st, w)
    | _ => none
  | .dup2 => match st with
    | .int y :: .ref x :: st => some (pc + 1, L, .int y :: .ref x :: .int y :: .ref x :: st, w)
    | _ => none
  | .pop => match st with
    | .int _ :: st => some (pc + 1, L, st, w)
    | _ => none
  | .goto off => match ez_br pc off with
    | some t => some (t, L, st, w)
    | none => none
  | .ifCond c off => match st with
    | .int x :: st => match ez_br pc off with
      | some t => some (bif ez_cd c x 0 then t else pc + 3, L, st, w)
      | none => none
    | _ => none
  | .if_icmp c off => match st with
    | .int y :: .int x :: st => match ez_br pc off with
      | some t => some (bif ez_cd c x y then t else pc + 3, L, st, w)
      | none => none
    | _ => none
  | .tableswitch d lo hi offs => match st with
    | .int x :: st => match (if x.toInt < lo ∨ hi < x.toInt then some d else offs[(x.toInt - lo).toNat]?) with
      | some off => match ez_br pc off with
        | some t => some (t, L, st, w)
        | none => none
      | none => none
    | _ => none
  | .lookupswitch d ps => match st with
    | .int x :: st => bif (ps.toList.zip (ps.toList.drop 1)).all (fun (a, next) => a.1 < next.1) then match ez_br pc (Op.lookupswitch.offset ps.toList d x.toInt) with
        | some t => some (t, L, st, w)
        | none => none
      else none
    | _ => none
  | .getfield k => match st with
    | .ref a :: st => match ez_at ez_ff o k with
      | some (j, _) => match w[a]? with
        | some (.inr (c, fs)) => bif Nat.beq c o then match fs[j]? with
            | some v => some (pc + 3, L, v :: st, w)
            | none => none
          else none
        | _ => none
      | none => none
    | _ => none
  | .putfield k => match st with
    | v :: .ref a :: st => match ez_at ez_ff o k with
      | some (j, kd) => bif ez_ft kd v then match w[a]? with
          | some (.inr (c, fs)) => bif Nat.beq c o && Nat.blt j fs.length then some (pc + 3, L, st, w.set a (.inr (c, fs.set j v))) else none
          | _ => none
        else none
      | none => none
    | _ => none
  | .iaload => match st with
    | .int i :: .ref a :: st => match w[a]? with
      | some (.inl (n, f)) => if i < 0 ∨ n ≤ i.toNatClampNeg then none else some (pc + 1, L, .int (f i.toNatClampNeg) :: st, w)
      | _ => none
    | _ => none
  | .iastore => match st with
    | .int x :: .int i :: .ref a :: st => match w[a]? with
      | some (.inl (n, f)) => if i < 0 ∨ n ≤ i.toNatClampNeg then none else some (pc + 1, L, st, w.set a (.inl (n, upd f i.toNatClampNeg x)))
      | _ => none
    | _ => none
  | .arraylength => match st with
    | .ref a :: st => match w[a]? with
      | some (.inl (n, _)) => some (pc + 1, L, .int (Int32.ofNat n) :: st, w)
      | _ => none
    | _ => none
  | _ => none
/-- the locals at a method's entry -/
def ez_en (vs : List Value) (n : Nat) : ez_L := (vs.flatMap fun v => if v.category = 2 then [some v, none] else [some v]) ++ List.replicate (n - (vs.flatMap fun v => if v.category = 2 then [some v, none] else [some v]).length) none
def ez_rk (r : Option FieldType) (v : Int32) : Bool := match r with
  | some .int => true
  | some .boolean => v == 0 || v == 1
  | _ => false
/-- does the callee N fit the room of M, with rest left on the stack? -/
def ez_fit (M N : ez_M) (rest : List Value) : Bool := Nat.ble (N.2.2.2.2.2.2.1 + 1) M.2.2.2.2.2.2.1 && (Nat.ble (8 + (N.2.2.2.1 + 11) + N.2.2.2.2.2.2.2) M.2.2.2.2.2.2.2 && Nat.ble (rest.map fun v => v.category).sum 8)
/-- a method's run: what it answers, and the world behind it -/
def ez_ev : Nat → Nat → Nat → ez_L → List Value → ez_W → Option (Option Value × ez_W)
  | 0, _, _, _, _, _ => none
  | n + 1, mi, pc, L, st, w => match ez_ms[mi]? with
    | none => none
    | some M => match ez_i mi pc with
      | none => none
      | some (i, len) => bif ez_ok i len then
        match i with
        | .ireturn => match st with
          | [.int v] => bif ez_rk M.2.2.2.2.1 v then some (some (.int v), w) else none
          | _ => none
        | .lreturn => match st, M.2.2.2.2.1 with
          | [.long v], some .long => some (some (.long v), w)
          | _, _ => none
        | .return_ => match st, M.2.2.2.2.1 with
          | [], none => some (none, w)
          | _, _ => none
        | .invokevirtual k => match ez_at ez_cc M.1 k with
          | none => none
          | some j => match ez_ms[j]? with
            | none => none
            | some N => match st.drop N.2.2.2.2.2.1 with
              | .ref a :: rest => match w[a]? with
                | some (.inr (c, _)) =>
                  bif Nat.beq c N.1 && (ez_fit M N rest && (Nat.beq (st.take N.2.2.2.2.2.1).length N.2.2.2.2.2.1 && Nat.beq (ez_en (.ref a :: (st.take N.2.2.2.2.2.1).reverse) N.2.2.2.1).length N.2.2.2.1)) then
                    match ez_ev n j 0 (ez_en (.ref a :: (st.take N.2.2.2.2.2.1).reverse) N.2.2.2.1) [] w with
                    | some (r, w1) => ez_ev n mi (pc + 3) L (r.toList ++ rest) w1
                    | none => none
                  else none
                | _ => none
              | _ => none
        | .invokestatic k => match ez_at ez_mm M.1 k with
          | some f => match st with
            | .int y :: .int x :: rest => bif Nat.ble 1 M.2.2.2.2.2.2.1 && (Nat.ble ((rest.map fun v => v.category).sum + 13) M.2.2.2.2.2.2.2) then
                ez_ev n mi (pc + 3) L (.int (bif Nat.beq f 0 then (if y < x then y else x) else (if x < y then y else x)) :: rest) w else none
            | _ => none
          | none => match ez_at ez_sc M.1 k with
            | none => none
            | some j => match ez_ms[j]? with
              | none => none
              | some N => 
                bif Nat.beq M.1 N.1 && (ez_fit M N (st.drop N.2.2.2.2.2.1) && (Nat.beq (st.take N.2.2.2.2.2.1).length N.2.2.2.2.2.1 && Nat.beq (ez_en ((st.take N.2.2.2.2.2.1).reverse) N.2.2.2.1).length N.2.2.2.1)) then
                  match ez_ev n j 0 (ez_en ((st.take N.2.2.2.2.2.1).reverse) N.2.2.2.1) [] w with
                  | some (r, w1) => ez_ev n mi (pc + 3) L (r.toList ++ st.drop N.2.2.2.2.2.1) w1
                  | none => none
                else none
        | i => match ez_s M.1 i pc L st w with
          | some (pc', L', st', w') => ez_ev n mi pc' L' st' w'
          | none => none
      else none
