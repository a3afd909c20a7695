/-! what an instruction asks and does: K goes on, S stops before it, P ends the method -/
def jmp (pc : Nat) (off : Int) : Nat := ((pc : Int) + off).toNat
def swK (x : Int32) (lo : Int) (pc : Nat) (K : Nat → Prop) : List Int → Prop
  | [] => True
  | o :: os => (x = Int32.ofInt lo → K (jmp pc o)) ∧ swK x (lo + 1) pc K os
def lkK (x : Int32) (pc : Nat) (K : Nat → Prop) : List (Int × Int) → Prop
  | [] => True
  | o :: os => (x = Int32.ofInt o.1 → K (jmp pc o.2)) ∧ lkK x pc K os
def lkN (x : Int32) : List (Int × Int) → Prop
  | [] => True
  | o :: os => ¬ x = Int32.ofInt o.1 ∧ lkN x os
def cmpI (c : ClassFile.Cond) (x y : Int32) : Prop := match c with
  | .eq => x = y
  | .ne => ¬ x = y
  | .lt => x < y
  | .ge => y ≤ x
  | .gt => y < x
  | .le => x ≤ y
def ln (i : Instr) : Nat := match i with
  | .bipush _ => 2 | .ldc _ => 2 | .iload _ => 2 | .lload _ => 2 | .aload _ => 2 | .istore _ => 2 | .lstore _ => 2 | .astore _ => 2
  | .sipush _ => 3 | .ldc_w _ => 3 | .ldc2_w _ => 3 | .iinc _ _ => 3 | .goto _ => 3 | .if_acmp _ _ => 3 | .getstatic _ => 3 | .ifCond _ _ => 3 | .if_icmp _ _ => 3 | .ifnull _ => 3 | .ifnonnull _ => 3 | .getfield _ => 3 | .putfield _ => 3
  | .tableswitch _ _ _ _ => 0 | .lookupswitch _ _ => 0 | .newarray _ => 0 | .invokevirtual _ => 0 | .invokestatic _ => 0 | .invokespecial _ => 0 | .new _ => 0 | .anewarray _ => 0 | .checkcast _ => 0
  | _ => 1
def finF (ci k : Nat) : Bool := match clT ci with | some r => (r.2.1 k).2.2.2 | none => true
def inx (j : Int32) (n : Nat) : Prop := 0 ≤ j.toInt ∧ j.toInt < n
/-- one instruction; own: the class of the method -/
def stepI (own : Nat) (ini : Bool) (rt : Option FieldType) (i : Instr) (pc : Nat) (L : List (Option Value)) (st : List Value) (M : Mm) (K : Nat → List (Option Value) → List Value → Mm → Prop) (S : Prop) (P : Option Value → Mm → Prop) : Prop := match i with
  | .iconst n => K (pc + 1) L (.int (Int32.ofInt n) :: st) M
  | .bipush n => K (pc + 2) L (.int (Int8.ofInt n).toInt32 :: st) M
  | .sipush n => K (pc + 3) L (.int (Int16.ofInt n).toInt32 :: st) M
  | .lconst n => K (pc + 1) L (.long (Int64.ofNat n) :: st) M
  | .aconst_null => K (pc + 1) L (.null :: st) M
  | .ldc n => (match cI own n with | some v => K (pc + 2) L (.int v :: st) M | none => False)
  | .ldc_w n => (match cI own n with | some v => K (pc + 3) L (.int v :: st) M | none => False)
  | .ldc2_w n => (match cL own n with | some v => K (pc + 3) L (.long v :: st) M | none => False)
  | .iload n => (match L.getD n none with | some (.int x) => K (pc + 2) L (.int x :: st) M | _ => False)
  | .iload_n n => (match L.getD n none with | some (.int x) => K (pc + 1) L (.int x :: st) M | _ => False)
  | .lload n => (match L.getD n none with | some (.long x) => K (pc + 2) L (.long x :: st) M | _ => False)
  | .lload_n n => (match L.getD n none with | some (.long x) => K (pc + 1) L (.long x :: st) M | _ => False)
  | .aload n => (match L.getD n none with | some (.ref x) => K (pc + 2) L (.ref x :: st) M | some .null => K (pc + 2) L (.null :: st) M | _ => False)
  | .aload_n n => (match L.getD n none with | some (.ref x) => K (pc + 1) L (.ref x :: st) M | some .null => K (pc + 1) L (.null :: st) M | _ => False)
  | .istore n => (match st with | .int x :: r => n < L.length ∧ K (pc + 2) (st1 L n (.int x)) r M | _ => False)
  | .istore_n n => (match st with | .int x :: r => n.val < L.length ∧ K (pc + 1) (st1 L n (.int x)) r M | _ => False)
  | .lstore n => (match st with | .long x :: r => n + 1 < L.length ∧ K (pc + 2) (st2 L n (.long x)) r M | _ => False)
  | .lstore_n n => (match st with | .long x :: r => n.val + 1 < L.length ∧ K (pc + 1) (st2 L n (.long x)) r M | _ => False)
  | .astore n => (match st with | .ref x :: r => n < L.length ∧ K (pc + 2) (st1 L n (.ref x)) r M | _ => False)
  | .astore_n n => (match st with | .ref x :: r => n.val < L.length ∧ K (pc + 1) (st1 L n (.ref x)) r M | _ => False)
  | .iinc n d => (match L.getD n none with | some (.int x) => K (pc + 3) (st1 L n (.int (x + Int32.ofInt d))) st M | _ => False)
  | .iadd => (match st with | .int y :: .int x :: r => K (pc + 1) L (.int (x + y) :: r) M | _ => False)
  | .isub => (match st with | .int y :: .int x :: r => K (pc + 1) L (.int (x - y) :: r) M | _ => False)
  | .imul => (match st with | .int y :: .int x :: r => K (pc + 1) L (.int (x * y) :: r) M | _ => False)
  | .iand => (match st with | .int y :: .int x :: r => K (pc + 1) L (.int (x &&& y) :: r) M | _ => False)
  | .ior => (match st with | .int y :: .int x :: r => K (pc + 1) L (.int (x ||| y) :: r) M | _ => False)
  | .ixor => (match st with | .int y :: .int x :: r => K (pc + 1) L (.int (x ^^^ y) :: r) M | _ => False)
  | .ishl => (match st with | .int y :: .int x :: r => K (pc + 1) L (.int (x <<< (y &&& 31)) :: r) M | _ => False)
  | .ishr => (match st with | .int y :: .int x :: r => K (pc + 1) L (.int (x >>> (y &&& 31)) :: r) M | _ => False)
  | .iushr => (match st with | .int y :: .int x :: r => K (pc + 1) L (.int ((x.toUInt32 >>> (y.toUInt32 &&& Int32.toUInt32 31)).toInt32) :: r) M | _ => False)
  | .ladd => (match st with | .long y :: .long x :: r => K (pc + 1) L (.long (x + y) :: r) M | _ => False)
  | .lsub => (match st with | .long y :: .long x :: r => K (pc + 1) L (.long (x - y) :: r) M | _ => False)
  | .lmul => (match st with | .long y :: .long x :: r => K (pc + 1) L (.long (x * y) :: r) M | _ => False)
  | .land => (match st with | .long y :: .long x :: r => K (pc + 1) L (.long (x &&& y) :: r) M | _ => False)
  | .lor => (match st with | .long y :: .long x :: r => K (pc + 1) L (.long (x ||| y) :: r) M | _ => False)
  | .lxor => (match st with | .long y :: .long x :: r => K (pc + 1) L (.long (x ^^^ y) :: r) M | _ => False)
  | .idiv => (match st with | .int y :: .int x :: r => ¬ y = 0 ∧ K (pc + 1) L (.int (x / y) :: r) M | _ => False)
  | .irem => (match st with | .int y :: .int x :: r => ¬ y = 0 ∧ K (pc + 1) L (.int (x - x / y * y) :: r) M | _ => False)
  | .ldiv => (match st with | .long y :: .long x :: r => ¬ y = 0 ∧ K (pc + 1) L (.long (x / y) :: r) M | _ => False)
  | .lrem => (match st with | .long y :: .long x :: r => ¬ y = 0 ∧ K (pc + 1) L (.long (x - x / y * y) :: r) M | _ => False)
  | .lshl => (match st with | .int y :: .long x :: r => K (pc + 1) L (.long (x <<< (y.toInt64 &&& 63)) :: r) M | _ => False)
  | .lshr => (match st with | .int y :: .long x :: r => K (pc + 1) L (.long (x >>> (y.toInt64 &&& 63)) :: r) M | _ => False)
  | .lushr => (match st with | .int y :: .long x :: r => K (pc + 1) L (.long (x.toUInt64 >>> (y.toInt64.toUInt64 &&& Int64.toUInt64 63)).toInt64 :: r) M | _ => False)
  | .i2l => (match st with | .int x :: r => K (pc + 1) L (.long x.toInt64 :: r) M | _ => False)
  | .l2i => (match st with | .long x :: r => K (pc + 1) L (.int x.toInt32 :: r) M | _ => False)
  | .i2b => (match st with | .int x :: r => K (pc + 1) L (.int x.toInt8.toInt32 :: r) M | _ => False)
  | .lcmp => (match st with | .long y :: .long x :: r => K (pc + 1) L (.int (lg_cmp x y) :: r) M | _ => False)
  | .dup => (match st with | v :: r => v.category = 1 ∧ K (pc + 1) L (v :: v :: r) M | _ => False)
  | .pop => (match st with | v :: r => v.category = 1 ∧ K (pc + 1) L r M | _ => False)
  | .dup2 => (match st with | .long x :: r => K (pc + 1) L (.long x :: .long x :: r) M | v :: w :: r => v.category = 1 ∧ w.category = 1 ∧ K (pc + 1) L (v :: w :: v :: w :: r) M | _ => False)
  | .goto off => 0 ≤ (pc : Int) + off ∧ K (jmp pc off) L st M
  | .ifCond c off => (match st with | .int x :: r => 0 ≤ (pc : Int) + off ∧ (cmpI c x 0 → K (jmp pc off) L r M) ∧ (¬ cmpI c x 0 → K (pc + 3) L r M) | _ => False)
  | .if_icmp c off => (match st with | .int y :: .int x :: r => 0 ≤ (pc : Int) + off ∧ (cmpI c x y → K (jmp pc off) L r M) ∧ (¬ cmpI c x y → K (pc + 3) L r M) | _ => False)
  | .if_acmp c off => (match st with | v :: w :: r => (∃ x y, v = va_rf y ∧ w = va_rf x ∧ (okA x ∧ okA y) ∧ 0 ≤ (pc : Int) + off ∧ (match c with | .eq => (x = y → K (jmp pc off) L r M) ∧ (¬ x = y → K (pc + 3) L r M) | .ne => (¬ x = y → K (jmp pc off) L r M) ∧ (x = y → K (pc + 3) L r M))) | _ => False)
  | .ifnull off => (match st with | .ref _ :: r => K (pc + 3) L r M | .null :: r => 0 ≤ (pc : Int) + off ∧ K (jmp pc off) L r M | _ => False)
  | .ifnonnull off => (match st with | .null :: r => K (pc + 3) L r M | .ref _ :: r => 0 ≤ (pc : Int) + off ∧ K (jmp pc off) L r M | _ => False)
  | .tableswitch d lo hi offs => (match st with | .int x :: r => lo + offs.toList.length = hi + 1 ∧ (-2147483648 ≤ lo ∧ hi < 2147483648) ∧ 0 ≤ (pc : Int) + d ∧ (∀ o ∈ offs.toList, 0 ≤ (pc : Int) + o) ∧ swK x lo pc (fun t => K t L r M) offs.toList ∧ ((x.toInt < lo ∨ hi < x.toInt) → K (jmp pc d) L r M) | _ => False)
  | .getfield n => (match fT own n with | some q => (match st with | .ref a :: r => M.1 a = some (.inl q.1) ∧ K (pc + 3) L (rd (tyF q.1 q.2) M a q.2 :: r) M | _ => False) | none => (match wT own n with | some k => (match st with | .ref a :: r => (CB ≤ a ∧ a < CB + 21) ∧ K (pc + 3) L (wdV (a - CB) k :: r) M | _ => False) | none => S))
  | .getstatic n => (match sT own n with | some i => K (pc + 3) L (.ref (CB + i) :: st) M | none => S)
  | .putfield n => (match fT own n with | some q => (match st with | v :: .ref a :: r => M.1 a = some (.inl q.1) ∧ a < CB ∧ (finF q.1 q.2 = false ∨ (ini = true ∧ q.1 = own)) ∧ okv (tyF q.1 q.2) v ∧ K (pc + 3) L r (wr M a q.2 v) | _ => False) | none => S)
  | .iaload => (match st with | .int j :: .ref a :: r => (∃ n, M.1 a = some (.inr (.int, n)) ∧ inx j n) ∧ K (pc + 1) L (.int (M.2.1 a j.toNatClampNeg) :: r) M | _ => False)
  | .laload => (match st with | .int j :: .ref a :: r => (∃ n, M.1 a = some (.inr (.long, n)) ∧ inx j n) ∧ K (pc + 1) L (.long (M.2.2.1 a j.toNatClampNeg) :: r) M | _ => False)
  | .baload => (match st with | .int j :: .ref a :: r => (∃ n, (M.1 a = some (.inr (.byte, n)) ∨ M.1 a = some (.inr (.boolean, n))) ∧ inx j n) ∧ K (pc + 1) L (.int (M.2.1 a j.toNatClampNeg) :: r) M | _ => False)
  | .aaload => (match st with | .int j :: .ref a :: r => if a = CB + 21 then inx j 21 ∧ K (pc + 1) L (.ref (CB + j.toNatClampNeg) :: r) M else (∃ n, M.1 a = some (.inr (.object RX6, n)) ∧ inx j n) ∧ K (pc + 1) L (va_rf (M.2.2.2.1 a j.toNatClampNeg) :: r) M | _ => False)
  | .iastore => (match st with | .int x :: .int j :: .ref a :: r => ((∃ n, M.1 a = some (.inr (.int, n)) ∧ inx j n) ∧ a < CB) ∧ K (pc + 1) L r (M.1, up2 M.2.1 a j.toNatClampNeg x, M.2.2) | _ => False)
  | .lastore => (match st with | .long x :: .int j :: .ref a :: r => ((∃ n, M.1 a = some (.inr (.long, n)) ∧ inx j n) ∧ a < CB) ∧ K (pc + 1) L r (M.1, M.2.1, up2 M.2.2.1 a j.toNatClampNeg x, M.2.2.2) | _ => False)
  | .bastore => (match st with | .int x :: .int j :: .ref a :: r => ((∃ n, (M.1 a = some (.inr (.byte, n)) ∧ x.toInt8.toInt32 = x ∨ M.1 a = some (.inr (.boolean, n)) ∧ (x = 0 ∨ x = 1)) ∧ inx j n) ∧ a < CB) ∧ K (pc + 1) L r (M.1, up2 M.2.1 a j.toNatClampNeg x, M.2.2) | _ => False)
  | .arraylength => (match st with | .ref a :: r => if a = CB + 21 then K (pc + 1) L (.int 21 :: r) M else (match M.1 a with | some (.inr q) => okT q.1 ∧ K (pc + 1) L (.int (Int32.ofNat q.2) :: r) M | _ => False) | _ => False)
  | .ireturn => (match st with | .int x :: [] => (rt = some .int ∨ rt = some .boolean ∧ (x = 0 ∨ x = 1)) ∧ P (some (.int x)) M | _ => False)
  | .lreturn => (match st with | .long x :: [] => rt = some .long ∧ P (some (.long x)) M | _ => False)
  | .return_ => (match st with | [] => rt = none ∧ P none M | _ => False)
  | _ => S
/-- instructions up to a stop; at 'stops' it stops, but not at the first one -/
def wp (own : Nat) (ini : Bool) (rt : Option FieldType) (cc : ByteArray) (stops : List Nat) (F : Nat → List (Option Value) → List Value → Mm → Prop) (P : Option Value → Mm → Prop) : Nat → Nat → List (Option Value) → List Value → Mm → Prop
  | 0, pc, L, st, M => F pc L st M
  | f + 1, pc, L, st, M => match decode cc pc with
    | (.ok (i, len)) => (ln i = 0 ∨ len = ln i) ∧ stepI own ini rt i pc L st M (fun pc' L' st' M' => if stops.contains pc' = true then F pc' L' st' M' else wp own ini rt cc stops F P f pc' L' st' M') (F pc L st M) P
    | _ => False
